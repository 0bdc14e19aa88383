/-! rows that read and write the heap, and ends -/
section OH
variable {l : Launch} {M : o_M} {d : Nat} {al : Nat → Prop} {post : o_P} {pc : Nat} {ls : List (Nat × Value)} {st : List Value} {n : Nat} {h : Nat → o_C} {mc ms : Nat}
theorem o_getf {b ci k i N : Nat} {fs : List Value} {C : String} {T : u_T} {v : Value} (hd : decode M.2.1 pc = .ok (.getfield i, 3)) (hb : b < n) (hh : h b = .inr (ci, fs)) (hc : o_cl[ci]? = some (C, T, N)) (hk : k < N) (hw : Cond.fieldLink M.1 i (T k).1 (T k).2.1 (T k).2.2.1 ∈ o_gW) (hv : fs[k]? = some v) (k9 : o_V l M d al post (pc + 3) ls (v :: st) n h mc ms) : o_V l M d al post pc ls (.ref b :: st) n h mc ms := by
  intro Z p e R s m args below meth c ad H locs cells slots MC MS la Q X E S P a1 a2 a3 a4 L K
  exact va_get (D := Z.2.1) (cl := o_cl) (tys := o_tys Z) X.1 X.2.1 X.2.2.2.1 (o_clAt hc).1 X.2.2.1 E.2.1 P.1 b (o_rW_get hb hh) hc k hk (X.2.2.2.1 _ hw) (fun _ h9 => h9) (by rw [List.getElem?_map, hv]; rfl) hd (k9 Z p e R s m args below meth c ad H locs cells slots MC MS la Q X E S P a1 a2 a3 a4 L K)
theorem o_putf {b ci k i N : Nat} {fs : List Value} {C : String} {T : u_T} {v : Value} {ty : FieldType} {h' : Nat → o_C} (hd : decode M.2.1 pc = .ok (.putfield i, 3)) (hb : b < n) (hh : h b = .inr (ci, fs)) (hc : o_cl[ci]? = some (C, T, N)) (hk : k < N) (hw : Cond.fieldLink M.1 i (T k).1 (T k).2.1 (T k).2.2.1 ∈ o_gW) (hfin : (T k).2.2.2 = false) (hty : parseFieldDescriptor (T k).2.2.1 = some ty) (hl : k < fs.length) (hn : ∀ ad, narrow ty (o_rV ad v) = o_rV ad v) (hf : ∀ ad, fits ty (o_rV ad v) = true) (e9 : o_up h b (.inr (ci, fs.set k v)) = h') (k9 : o_V l M d al post (pc + 3) ls st n h' mc ms) : o_V l M d al post pc ls (v :: .ref b :: st) n h mc ms := by
  intro Z p e R s m args below meth c ad H locs cells slots MC MS la Q X E S P a1 a2 a3 a4 L K
  obtain ⟨hcw, ⟨ty0, hty0⟩, hnm⟩ := o_clAt hc
  refine va_put (D := Z.2.1) (cl := o_cl) (tys := o_tys Z) X.1 X.2.1 X.2.2.2.1 hcw ty0 hty0 hnm X.2.2.1 E.2.1 P.1 P.2 S b (o_rW_get hb hh) hc k hk (X.2.2.2.1 _ hw) (fun _ h9 => h9) hfin hty (hn ad) (hf ad) (by rw [List.length_map]; exact hl) hd (fun H1 locs1 hP hD hS => ?_)
  exact k9 Z p e R s m args below meth c ad H1 locs1 cells slots MC MS la Q X E hS (o_Rp.set (by rw [← List.map_set]; rfl) e9 hP hD) a1 a2 a3 a4 L K
theorem o_iald {b len : Nat} {g : Nat → Int} {i : Int} (hd : decode M.2.1 pc = .ok (.iaload, 1)) (hb : b < n) (hh : h b = .inl (0, len, .inl (fun j => o_I (g j)))) (hle : len ≤ 2147483647) (h0 : 0 ≤ i) (h1 : i < len) (k9 : o_V l M d al post (pc + 1) ls (.int (o_I (g i.toNat)) :: st) n h mc ms) : o_V l M d al post pc ls (.int (o_I i) :: .ref b :: st) n h mc ms := by
  intro Z p e R s m args below meth c ad H locs cells slots MC MS la Q X E S P a1 a2 a3 a4 L K
  have k8 := k9 Z p e R s m args below meth c ad H locs cells slots MC MS la Q X E S P a1 a2 a3 a4 L K
  rw [← o_clamp (o_inR hle h0 h1)] at k8
  exact va_iald (D := Z.2.1) (cl := o_cl) (tys := o_tys Z) X.1 X.2.1 E.2.1 P.1 b 0 (o_rW_get hb hh) (o_tys_get rfl) (o_in (o_inR hle h0 h1) h0 h1) hd k8
theorem o_iast {b len : Nat} {g : Nat → Int} {i z : Int} {h' : Nat → o_C} (hd : decode M.2.1 pc = .ok (.iastore, 1)) (hb : b < n) (hh : h b = .inl (0, len, .inl (fun j => o_I (g j)))) (hle : len ≤ 2147483647) (h0 : 0 ≤ i) (h1 : i < len) (e9 : o_up h b (.inl (0, len, .inl (fun j => o_I (o_u g i.toNat z j)))) = h') (k9 : o_V l M d al post (pc + 1) ls st n h' mc ms) : o_V l M d al post pc ls (.int (o_I z) :: .int (o_I i) :: .ref b :: st) n h mc ms := by
  intro Z p e R s m args below meth c ad H locs cells slots MC MS la Q X E S P a1 a2 a3 a4 L K
  refine va_iast (D := Z.2.1) (cl := o_cl) (tys := o_tys Z) X.1 X.2.1 E.2.1 P.1 P.2 S b 0 (o_rW_get hb hh) (o_tys_get rfl) (o_in (o_inR hle h0 h1) h0 h1) hd (fun H1 locs1 hP hD hS => ?_)
  exact k9 Z p e R s m args below meth c ad H1 locs1 cells slots MC MS la Q X E hS (o_Rp.set (by rw [o_clamp (o_inR hle h0 h1), o_uI]; rfl) e9 hP hD) a1 a2 a3 a4 L K
theorem o_zald {b len : Nat} {g : Nat → Int} {i : Int} (hd : decode M.2.1 pc = .ok (.baload, 1)) (hb : b < n) (hh : h b = .inl (1, len, .inl (fun j => o_I (g j)))) (hle : len ≤ 2147483647) (h0 : 0 ≤ i) (h1 : i < len) (k9 : o_V l M d al post (pc + 1) ls (.int (o_I (g i.toNat)) :: st) n h mc ms) : o_V l M d al post pc ls (.int (o_I i) :: .ref b :: st) n h mc ms := by
  intro Z p e R s m args below meth c ad H locs cells slots MC MS la Q X E S P a1 a2 a3 a4 L K
  have k8 := k9 Z p e R s m args below meth c ad H locs cells slots MC MS la Q X E S P a1 a2 a3 a4 L K
  rw [← o_clamp (o_inR hle h0 h1)] at k8
  exact va_zald (D := Z.2.1) (cl := o_cl) (tys := o_tys Z) X.1 X.2.1 E.2.1 P.1 b 1 (o_rW_get hb hh) (o_tys_get rfl) (o_in (o_inR hle h0 h1) h0 h1) hd k8
theorem o_zast {b len : Nat} {g : Nat → Int} {i z : Int} {h' : Nat → o_C} (hd : decode M.2.1 pc = .ok (.bastore, 1)) (hb : b < n) (hh : h b = .inl (1, len, .inl (fun j => o_I (g j)))) (hle : len ≤ 2147483647) (h0 : 0 ≤ i) (h1 : i < len) (hn : vp_nar .boolean (o_I z) = o_I z) (e9 : o_up h b (.inl (1, len, .inl (fun j => o_I (o_u g i.toNat z j)))) = h') (k9 : o_V l M d al post (pc + 1) ls st n h' mc ms) : o_V l M d al post pc ls (.int (o_I z) :: .int (o_I i) :: .ref b :: st) n h mc ms := by
  intro Z p e R s m args below meth c ad H locs cells slots MC MS la Q X E S P a1 a2 a3 a4 L K
  refine va_zast (D := Z.2.1) (cl := o_cl) (tys := o_tys Z) X.1 X.2.1 E.2.1 P.1 P.2 S b 1 (o_rW_get hb hh) (o_tys_get rfl) (o_in (o_inR hle h0 h1) h0 h1) hd (fun H1 locs1 hP hD hS => ?_)
  exact k9 Z p e R s m args below meth c ad H1 locs1 cells slots MC MS la Q X E hS (o_Rp.set (by rw [hn, o_clamp (o_inR hle h0 h1), o_uI]; rfl) e9 hP hD) a1 a2 a3 a4 L K
theorem o_cald {b len : Nat} {g : Nat → Int} {i : Int} (hd : decode M.2.1 pc = .ok (.caload, 1)) (hb : b < n) (hh : h b = .inl (2, len, .inl (fun j => o_I (g j)))) (hle : len ≤ 2147483647) (h0 : 0 ≤ i) (h1 : i < len) (k9 : o_V l M d al post (pc + 1) ls (.int (o_I (g i.toNat)) :: st) n h mc ms) : o_V l M d al post pc ls (.int (o_I i) :: .ref b :: st) n h mc ms := by
  intro Z p e R s m args below meth c ad H locs cells slots MC MS la Q X E S P a1 a2 a3 a4 L K
  have k8 := k9 Z p e R s m args below meth c ad H locs cells slots MC MS la Q X E S P a1 a2 a3 a4 L K
  rw [← o_clamp (o_inR hle h0 h1)] at k8
  exact va_cald (D := Z.2.1) (cl := o_cl) (tys := o_tys Z) X.1 X.2.1 E.2.1 P.1 b 2 (o_rW_get hb hh) (o_tys_get rfl) (o_in (o_inR hle h0 h1) h0 h1) hd k8
theorem o_cast {b len : Nat} {g : Nat → Int} {i z : Int} {h' : Nat → o_C} (hd : decode M.2.1 pc = .ok (.castore, 1)) (hb : b < n) (hh : h b = .inl (2, len, .inl (fun j => o_I (g j)))) (hle : len ≤ 2147483647) (h0 : 0 ≤ i) (h1 : i < len) (hn : vp_nar .char (o_I z) = o_I z) (e9 : o_up h b (.inl (2, len, .inl (fun j => o_I (o_u g i.toNat z j)))) = h') (k9 : o_V l M d al post (pc + 1) ls st n h' mc ms) : o_V l M d al post pc ls (.int (o_I z) :: .int (o_I i) :: .ref b :: st) n h mc ms := by
  intro Z p e R s m args below meth c ad H locs cells slots MC MS la Q X E S P a1 a2 a3 a4 L K
  refine va_cast (D := Z.2.1) (cl := o_cl) (tys := o_tys Z) X.1 X.2.1 E.2.1 P.1 P.2 S b 2 (o_rW_get hb hh) (o_tys_get rfl) (o_in (o_inR hle h0 h1) h0 h1) hd (fun H1 locs1 hP hD hS => ?_)
  exact k9 Z p e R s m args below meth c ad H1 locs1 cells slots MC MS la Q X E hS (o_Rp.set (by rw [hn, o_clamp (o_inR hle h0 h1), o_uI]; rfl) e9 hP hD) a1 a2 a3 a4 L K
theorem o_bald {b len : Nat} {g : Nat → Int} {i : Int} (hd : decode M.2.1 pc = .ok (.baload, 1)) (hb : b < n) (hh : h b = .inl (3, len, .inl (fun j => o_I (g j)))) (hle : len ≤ 2147483647) (h0 : 0 ≤ i) (h1 : i < len) (k9 : o_V l M d al post (pc + 1) ls (.int (o_I (g i.toNat)) :: st) n h mc ms) : o_V l M d al post pc ls (.int (o_I i) :: .ref b :: st) n h mc ms := by
  intro Z p e R s m args below meth c ad H locs cells slots MC MS la Q X E S P a1 a2 a3 a4 L K
  have k8 := k9 Z p e R s m args below meth c ad H locs cells slots MC MS la Q X E S P a1 a2 a3 a4 L K
  rw [← o_clamp (o_inR hle h0 h1)] at k8
  exact va_bald (D := Z.2.1) (cl := o_cl) (tys := o_tys Z) X.1 X.2.1 E.2.1 P.1 b 3 (o_rW_get hb hh) (o_tys_get rfl) (o_in (o_inR hle h0 h1) h0 h1) hd k8
theorem o_bast {b len : Nat} {g : Nat → Int} {i z : Int} {h' : Nat → o_C} (hd : decode M.2.1 pc = .ok (.bastore, 1)) (hb : b < n) (hh : h b = .inl (3, len, .inl (fun j => o_I (g j)))) (hle : len ≤ 2147483647) (h0 : 0 ≤ i) (h1 : i < len) (hn : vp_nar .byte (o_I z) = o_I z) (e9 : o_up h b (.inl (3, len, .inl (fun j => o_I (o_u g i.toNat z j)))) = h') (k9 : o_V l M d al post (pc + 1) ls st n h' mc ms) : o_V l M d al post pc ls (.int (o_I z) :: .int (o_I i) :: .ref b :: st) n h mc ms := by
  intro Z p e R s m args below meth c ad H locs cells slots MC MS la Q X E S P a1 a2 a3 a4 L K
  refine va_bast (D := Z.2.1) (cl := o_cl) (tys := o_tys Z) X.1 X.2.1 E.2.1 P.1 P.2 S b 3 (o_rW_get hb hh) (o_tys_get rfl) (o_in (o_inR hle h0 h1) h0 h1) hd (fun H1 locs1 hP hD hS => ?_)
  exact k9 Z p e R s m args below meth c ad H1 locs1 cells slots MC MS la Q X E hS (o_Rp.set (by rw [hn, o_clamp (o_inR hle h0 h1), o_uI]; rfl) e9 hP hD) a1 a2 a3 a4 L K
theorem o_lald {b len : Nat} {f : Nat → Int64} {i : Int} (hd : decode M.2.1 pc = .ok (.laload, 1)) (hb : b < n) (hh : h b = .inl (4, len, .inr (.inl f))) (hle : len ≤ 2147483647) (h0 : 0 ≤ i) (h1 : i < len) (k9 : o_V l M d al post (pc + 1) ls (.long (f i.toNat) :: st) n h mc ms) : o_V l M d al post pc ls (.int (o_I i) :: .ref b :: st) n h mc ms := by
  intro Z p e R s m args below meth c ad H locs cells slots MC MS la Q X E S P a1 a2 a3 a4 L K
  have k8 := k9 Z p e R s m args below meth c ad H locs cells slots MC MS la Q X E S P a1 a2 a3 a4 L K
  rw [← o_clamp (o_inR hle h0 h1)] at k8
  exact va_lald (D := Z.2.1) (cl := o_cl) (tys := o_tys Z) X.1 X.2.1 E.2.1 P.1 b 4 (o_rW_get hb hh) (o_tys_get rfl) (o_in (o_inR hle h0 h1) h0 h1) hd k8
theorem o_last {b len : Nat} {f : Nat → Int64} {i : Int} {z : Int64} {h' : Nat → o_C} (hd : decode M.2.1 pc = .ok (.lastore, 1)) (hb : b < n) (hh : h b = .inl (4, len, .inr (.inl f))) (hle : len ≤ 2147483647) (h0 : 0 ≤ i) (h1 : i < len) (e9 : o_up h b (.inl (4, len, .inr (.inl (vp_updL f i.toNat z)))) = h') (k9 : o_V l M d al post (pc + 1) ls st n h' mc ms) : o_V l M d al post pc ls (.long z :: .int (o_I i) :: .ref b :: st) n h mc ms := by
  intro Z p e R s m args below meth c ad H locs cells slots MC MS la Q X E S P a1 a2 a3 a4 L K
  refine va_last (D := Z.2.1) (cl := o_cl) (tys := o_tys Z) X.1 X.2.1 E.2.1 P.1 P.2 S b 4 (o_rW_get hb hh) (o_tys_get rfl) (o_in (o_inR hle h0 h1) h0 h1) hd (fun H1 locs1 hP hD hS => ?_)
  exact k9 Z p e R s m args below meth c ad H1 locs1 cells slots MC MS la Q X E hS (o_Rp.set (by rw [o_clamp (o_inR hle h0 h1)]; rfl) e9 hP hD) a1 a2 a3 a4 L K
theorem o_aald {b len t r : Nat} {C : String} {f : Nat → Option Nat} {i : Int} (hd : decode M.2.1 pc = .ok (.aaload, 1)) (hb : b < n) (hh : h b = .inl (t, len, .inr (.inr (.inr (.inr f))))) (ht : o_tyL[t]? = some (.object C)) (hle : len ≤ 2147483647) (h0 : 0 ≤ i) (h1 : i < len) (hr : f i.toNat = some r) (k9 : o_V l M d al post (pc + 1) ls (.ref r :: st) n h mc ms) : o_V l M d al post pc ls (.int (o_I i) :: .ref b :: st) n h mc ms := by
  intro Z p e R s m args below meth c ad H locs cells slots MC MS la Q X E S P a1 a2 a3 a4 L K
  have k8 : W p l e R s m args below meth c H locs cells slots Q (F0 m (pc + 1) la (va_rf ((f (o_I i).toNatClampNeg).map ad) :: st.map (o_rV ad))) := by
    rw [o_clamp (o_inR hle h0 h1), hr]
    exact k9 Z p e R s m args below meth c ad H locs cells slots MC MS la Q X E S P a1 a2 a3 a4 L K
  exact va_aldq (D := Z.2.1) (cl := o_cl) (tys := o_tys Z) (f := fun j => (f j).map ad) X.1 X.2.1 E.2.1 P.1 b t (o_rW_get hb hh) (o_tys_get ht) (o_in (o_inR hle h0 h1) h0 h1) hd k8
theorem o_alen {b t : Nat} {x : vp_A} {ty : FieldType} (hd : decode M.2.1 pc = .ok (.arraylength, 1)) (hb : b < n) (hh : h b = .inl (t, x)) (ht : o_tyL[t]? = some ty) (k9 : o_V l M d al post (pc + 1) ls (.int (o_I x.1) :: st) n h mc ms) : o_V l M d al post pc ls (.ref b :: st) n h mc ms := by
  intro Z p e R s m args below meth c ad H locs cells slots MC MS la Q X E S P a1 a2 a3 a4 L K
  exact va_alen (D := Z.2.1) (cl := o_cl) (tys := o_tys Z) X.1 X.2.1 E.2.1 P.1 b t (o_rW_get hb hh) (o_tys_get ht) (v := o_I x.1) (o_nI x.1) hd (k9 Z p e R s m args below meth c ad H locs cells slots MC MS la Q X E S P a1 a2 a3 a4 L K)
theorem o_copyi {index a0 b len0 len1 : Nat} {f g : Nat → Int} {sp dp m0 : Int} {h' : Nat → o_C} (hd : decode M.2.1 pc = .ok (.invokestatic index, 3)) (hw : Cond.methodLink M.1 index arraycopyName ∈ o_gW) (hw1 : Cond.native arraycopyName ∈ o_gW) (hw2 : Cond.static arraycopyName ∈ o_gW) (hw3 : Cond.initialized "java/lang/System" ∈ o_gW) (ha0 : a0 < n) (hb : b < n) (hh0 : h a0 = .inl (0, len0, .inl (fun j => o_I (f j)))) (hh : h b = .inl (0, len1, .inl (fun j => o_I (g j)))) (hl0 : len0 ≤ 2147483647) (hl1 : len1 ≤ 2147483647) (h0 : 0 ≤ sp) (h1 : 0 ≤ dp) (h2 : 0 ≤ m0) (h3 : sp + m0 ≤ len0) (h4 : dp + m0 ≤ len1) (hcat : (st.map fun v => v.category).sum ≤ 20) (e9 : o_up h b (.inl (0, len1, .inl (fun j => o_I (va_cpy f g sp.toNat dp.toNat m0.toNat j)))) = h') (k9 : o_V l M d al post (pc + 3) ls st n h' mc ms) : o_V l M d al post pc ls (.int (o_I m0) :: .int (o_I dp) :: .ref b :: .int (o_I sp) :: .ref a0 :: st) n h mc ms := by
  intro Z p e R s m args below meth c ad H locs cells slots MC MS la Q X E S P a1 a2 a3 a4 L K
  have r1 : o_R sp := ⟨by omega, by omega⟩
  have r2 : o_R dp := ⟨by omega, by omega⟩
  have r3 : o_R m0 := ⟨by omega, by omega⟩
  have b1 : (o_I sp).toNatClampNeg + (o_I m0).toNatClampNeg ≤ len0 := by rw [o_clamp r1, o_clamp r3]; omega
  have b2 : (o_I dp).toNatClampNeg + (o_I m0).toNatClampNeg ≤ len1 := by rw [o_clamp r2, o_clamp r3]; omega
  have b3 : 1 ≤ R.frames := by have := X.2.2.2.2.2.2.2.2.2.1; omega
  have b5 : nativeFrameWords "java/lang/System" "arraycopy" 5 ≤ 60 := by decide +kernel
  have b4 : ((st.map (o_rV ad)).map fun v => v.category).sum + (nativeFrameWords "java/lang/System" "arraycopy" 5 + 11) ≤ R.locals := by
    have := X.2.2.2.2.2.2.2.2.2.2
    rw [o_cats]
    omega
  refine va_copyi (D := Z.2.1) (cl := o_cl) (tys := o_tys Z) X.1 X.2.1 (X.2.2.2.2.1.trans L.1.symm) X.2.2.1 (X.2.2.2.1 _ hw) (X.2.2.2.1 _ hw1) (X.2.2.2.1 _ hw2) (X.2.2.2.1 _ hw3) E.2.1 P.1 P.2 S a0 b 0 0 (o_rW_get ha0 hh0) (o_rW_get hb hh) (o_tys_get rfl) (o_tys_get rfl) rfl (fun q => by have := (o_lt r1 o_R0).mp q; omega) (fun q => by have := (o_lt r2 o_R0).mp q; omega) (fun q => by have := (o_lt r3 o_R0).mp q; omega) b1 b2 (fun _ _ => rfl) b3 b4 hd (fun H1 locs1 hP hD hS => ?_)
  exact k9 Z p e R s m args below meth c ad H1 locs1 cells slots MC MS la Q X E hS (o_Rp.set (by rw [o_clamp r1, o_clamp r2, o_clamp r3, o_cpI]; rfl) e9 hP hD) a1 a2 a3 a4 L K
theorem o_mmax {index : Nat} {a b : Int} (hd : decode M.2.1 pc = .ok (.invokestatic index, 3)) (hw : Cond.methodLink M.1 index Lib.Math.max.name ∈ o_gW) (hw1 : Cond.static Lib.Math.max.name ∈ o_gW) (hw2 : Cond.initialized "java/lang/Math" ∈ o_gW) (hw3 : Cond.code Lib.Math.max.name Lib.Math.max.code 2 (some .int) ∈ o_gW) (ha : o_R a) (hb : o_R b) (hcat : (st.map fun v => v.category).sum ≤ 20) (k9 : o_V l M d al post (pc + 3) ls (.int (o_I (max a b)) :: st) n h mc ms) : o_V l M d al post pc ls (.int (o_I b) :: .int (o_I a) :: st) n h mc ms := by
  intro Z p e R s m args below meth c ad H locs cells slots MC MS la Q X E S P a1 a2 a3 a4 L K
  have k8 := k9 Z p e R s m args below meth c ad H locs cells slots MC MS la Q X E S P a1 a2 a3 a4 L K
  rw [← o_mx ha hb] at k8
  exact va_mmax X.1 X.2.1 (X.2.2.2.2.1.trans L.1.symm) X.2.2.1 (X.2.2.2.1 _ hw) (X.2.2.2.1 _ hw1) (X.2.2.2.1 _ hw2) (X.2.2.2.1 _ hw3) (by have := X.2.2.2.2.2.2.2.2.2.1; omega) (by have := X.2.2.2.2.2.2.2.2.2.2; rw [o_cats]; omega) (by omega) (by omega) hd k8
theorem o_mmin {index : Nat} {a b : Int} (hd : decode M.2.1 pc = .ok (.invokestatic index, 3)) (hw : Cond.methodLink M.1 index Lib.Math.min.name ∈ o_gW) (hw1 : Cond.static Lib.Math.min.name ∈ o_gW) (hw2 : Cond.initialized "java/lang/Math" ∈ o_gW) (hw3 : Cond.code Lib.Math.min.name Lib.Math.min.code 2 (some .int) ∈ o_gW) (ha : o_R a) (hb : o_R b) (hcat : (st.map fun v => v.category).sum ≤ 20) (k9 : o_V l M d al post (pc + 3) ls (.int (o_I (min a b)) :: st) n h mc ms) : o_V l M d al post pc ls (.int (o_I b) :: .int (o_I a) :: st) n h mc ms := by
  intro Z p e R s m args below meth c ad H locs cells slots MC MS la Q X E S P a1 a2 a3 a4 L K
  have k8 := k9 Z p e R s m args below meth c ad H locs cells slots MC MS la Q X E S P a1 a2 a3 a4 L K
  rw [← o_mn ha hb] at k8
  exact va_mmin X.1 X.2.1 (X.2.2.2.2.1.trans L.1.symm) X.2.2.1 (X.2.2.2.1 _ hw) (X.2.2.2.1 _ hw1) (X.2.2.2.1 _ hw2) (X.2.2.2.1 _ hw3) (by have := X.2.2.2.2.2.2.2.2.2.1; omega) (by have := X.2.2.2.2.2.2.2.2.2.2; rw [o_cats]; omega) (by omega) (by omega) hd k8
theorem o_ret (v : Option Value) (hd : decode M.2.1 pc = .ok (o_ri M.2.2.2.1, 1)) (hk : o_rok M.2.2.2.1 v) (hp : post (.inl v) n h) : o_V l M d al post pc ls v.toList n h mc ms := by
  intro Z p e R s m args below meth c ad H locs cells slots MC MS la Q X E S P a1 a2 a3 a4 L K
  exact K.1 v n h ad H locs cells slots pc la hp o_ag.rf P S (by omega) (by omega) hd hk
theorem o_ret1 {v : Value} (hd : decode M.2.1 pc = .ok (o_ri M.2.2.2.1, 1)) (hk : o_rok M.2.2.2.1 (some v)) (hp : post (.inl (some v)) n h) : o_V l M d al post pc ls [v] n h mc ms := o_ret (some v) hd hk hp
theorem o_ret0 (hd : decode M.2.1 pc = .ok (o_ri M.2.2.2.1, 1)) (hk : o_rok M.2.2.2.1 none) (hp : post (.inl none) n h) : o_V l M d al post pc ls [] n h mc ms := o_ret none hd hk hp
end OH
