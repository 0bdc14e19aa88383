/-! the exceptions of the class: what their making links -/
def o_tw (ik ic : Nat) (cls : String) : Prop := Bundle.fit cls = true ∧ (∀ n ∈ ["java/lang/RuntimeException", "java/lang/Exception"], Bundle.fit n = true) ∧ Cond.classLink RX11 ik cls ∈ o_gW ∧ Cond.initialized cls ∈ o_gW ∧ (∀ w ∈ vx_atS RX11 ic cls ["java/lang/RuntimeException", "java/lang/Exception"], w = .castable cls cls ∨ (∃ y ∈ o_dcl, w = .declares y) ∨ w ∈ o_gW) ∧ ∀ w ∈ Cond.classLink RX11 ik cls :: Cond.initialized cls :: vx_atS RX11 ic cls ["java/lang/RuntimeException", "java/lang/Exception"], vx_ot w = true
theorem tw_I : o_tw 364 368 "java/lang/IndexOutOfBoundsException" := ⟨by decide +kernel, by decide +kernel, by decide +kernel, by decide +kernel, by decide +kernel, by decide +kernel⟩
theorem tw_A : o_tw 294 298 "java/lang/IllegalArgumentException" := ⟨by decide +kernel, by decide +kernel, by decide +kernel, by decide +kernel, by decide +kernel, by decide +kernel⟩
theorem tw_S : o_tw 277 281 "java/lang/IllegalStateException" := ⟨by decide +kernel, by decide +kernel, by decide +kernel, by decide +kernel, by decide +kernel, by decide +kernel⟩
theorem tw_U : o_tw 313 317 "java/lang/UnsupportedOperationException" := ⟨by decide +kernel, by decide +kernel, by decide +kernel, by decide +kernel, by decide +kernel, by decide +kernel⟩
theorem tw_D : o_tw 246 250 "java/lang/ArithmeticException" := ⟨by decide +kernel, by decide +kernel, by decide +kernel, by decide +kernel, by decide +kernel, by decide +kernel⟩
def o_twN : Prop := Bundle.fit "java/util/NoSuchElementException" = true ∧ (∀ n ∈ ["java/lang/RuntimeException", "java/lang/Exception"], Bundle.fit n = true) ∧ Cond.classLink RX11 391 "java/util/NoSuchElementException" ∈ o_gW ∧ Cond.initialized "java/util/NoSuchElementException" ∈ o_gW ∧ (∀ w ∈ (o_ownN RX11 395 "java/util/NoSuchElementException" 13 prog_43_method_4_code "java/lang/RuntimeException" ["java/lang/Exception"]).filter vx_no, w = .castable "java/util/NoSuchElementException" "java/util/NoSuchElementException" ∨ (∃ y ∈ o_dcl, w = .declares y) ∨ w ∈ o_gW) ∧ ∀ w ∈ Cond.classLink RX11 391 "java/util/NoSuchElementException" :: Cond.initialized "java/util/NoSuchElementException" :: (o_ownN RX11 395 "java/util/NoSuchElementException" 13 prog_43_method_4_code "java/lang/RuntimeException" ["java/lang/Exception"]).filter vx_no, vx_ot w = true
theorem tw_N : o_twN := ⟨by decide +kernel, by decide +kernel, by decide +kernel, by decide +kernel, by decide +kernel, by decide +kernel⟩
section OTX
variable {l : Launch} {M : o_M} {d : Nat} {al : Nat → Prop} {post : o_P} {pc : Nat} {ls : List (Nat × Value)} {st : List Value} {n : Nat} {h : Nat → o_C} {mc ms : Nat}
/-- 'throw new E("text")' in the class -/
theorem o_tx {cls text : String} {ik is ic ci sn : Nat} (hM : M.1 = RX11) (ht : o_tw ik ic cls) (hex : cls ∈ o_exs) (hd0 : decode M.2.1 pc = .ok (.new ik, 3)) (hd3 : decode M.2.1 (pc + 3) = .ok (.dup, 1)) (hd4 : decode M.2.1 (pc + 4) = .ok (.ldc_w is, 3)) (hd6 : decode M.2.1 (pc + 7) = .ok (.invokespecial ic, 3)) (hd9 : decode M.2.1 (pc + 10) = .ok (.athrow, 1))
    (hs9 : (RX11, is, text, sn) ∈ o_str) (hc : o_cl[ci]? = some (cls, o_T0, 0)) (hT : M.2.2.2.2.1 = []) (hmc : 1 ≤ mc) (hms : 6 ≤ ms) (hcat : (st.map fun v => v.category).sum ≤ 8) (hp : post (.inr cls) n h) : o_V l M d al post pc ls st n h mc ms := by
  obtain ⟨h1, h2, h3, h4, h5, h6⟩ := ht
  rw [← hM] at h3 h5 h6 hs9
  exact o_throwW hd0 hd3 hd4 hd6 hd9 h1 h2 (by decide) h3 h4 hex h5 h6 hs9 hc hT hmc hms hcat hp
theorem o_txn {cls text : String} {ik is ic ci sn : Nat} (hM : M.1 = RX11) (ht : o_tw ik ic cls) (hex : cls ∈ o_exs) (hd0 : decode M.2.1 pc = .ok (.new ik, 3)) (hd3 : decode M.2.1 (pc + 3) = .ok (.dup, 1)) (hd4 : decode M.2.1 (pc + 4) = .ok (.ldc is, 2)) (hd6 : decode M.2.1 (pc + 6) = .ok (.invokespecial ic, 3)) (hd9 : decode M.2.1 (pc + 9) = .ok (.athrow, 1))
    (hs9 : (RX11, is, text, sn) ∈ o_str) (hc : o_cl[ci]? = some (cls, o_T0, 0)) (hT : M.2.2.2.2.1 = []) (hmc : 1 ≤ mc) (hms : 6 ≤ ms) (hcat : (st.map fun v => v.category).sum ≤ 8) (hp : post (.inr cls) n h) : o_V l M d al post pc ls st n h mc ms := by
  obtain ⟨h1, h2, h3, h4, h5, h6⟩ := ht
  rw [← hM] at h3 h5 h6 hs9
  exact o_throw hd0 hd3 hd4 hd6 hd9 h1 h2 (by decide) h3 h4 hex h5 h6 hs9 hc hT hmc hms hcat hp
theorem o_txN {text : String} {is ci sn : Nat} (hM : M.1 = RX11) (hd0 : decode M.2.1 pc = .ok (.new 391, 3)) (hd3 : decode M.2.1 (pc + 3) = .ok (.dup, 1)) (hd4 : decode M.2.1 (pc + 4) = .ok (.ldc_w is, 3)) (hd6 : decode M.2.1 (pc + 7) = .ok (.invokespecial 395, 3)) (hd9 : decode M.2.1 (pc + 10) = .ok (.athrow, 1))
    (hs9 : (RX11, is, text, sn) ∈ o_str) (hc : o_cl[ci]? = some ("java/util/NoSuchElementException", o_T0, 0)) (hT : M.2.2.2.2.1 = []) (hmc : 1 ≤ mc) (hms : 6 ≤ ms) (hcat : (st.map fun v => v.category).sum ≤ 8) (hp : post (.inr "java/util/NoSuchElementException") n h) : o_V l M d al post pc ls st n h mc ms := by
  obtain ⟨h1, h2, h3, h4, h5, h6⟩ := tw_N
  rw [← hM] at h3 h5 h6 hs9
  exact o_throwN (by decide +kernel) (by decide +kernel) (by decide +kernel) (by decide +kernel) hd0 hd3 hd4 hd6 hd9 h1 h2 (by decide) h3 h4 (by decide) h5 h6 hs9 hc hT hmc hms hcat hp
/-- array rows with a natural index -/
theorem o_ialdn {b len j : Nat} {g : Nat → Int} {i : Int} (hd : decode M.2.1 pc = .ok (.iaload, 1)) (hb : b < n) (hh : h b = .inl (0, len, .inl (fun j => o_I (g j)))) (hle : len ≤ 2147483647) (hi : i = (j : Int)) (hj : j < len) (k9 : o_V l M d al post (pc + 1) ls (.int (o_I (g j)) :: st) n h mc ms) : o_V l M d al post pc ls (.int (o_I i) :: .ref b :: st) n h mc ms := by
  subst hi
  exact o_iald hd hb hh hle (by omega) (by omega) k9
theorem o_zaldn {b len j : Nat} {g : Nat → Int} {i : Int} (hd : decode M.2.1 pc = .ok (.baload, 1)) (hb : b < n) (hh : h b = .inl (1, len, .inl (fun j => o_I (g j)))) (hle : len ≤ 2147483647) (hi : i = (j : Int)) (hj : j < len) (k9 : o_V l M d al post (pc + 1) ls (.int (o_I (g j)) :: st) n h mc ms) : o_V l M d al post pc ls (.int (o_I i) :: .ref b :: st) n h mc ms := by
  subst hi
  exact o_zald hd hb hh hle (by omega) (by omega) k9
theorem o_caldn {b len j : Nat} {g : Nat → Int} {i : Int} (hd : decode M.2.1 pc = .ok (.caload, 1)) (hb : b < n) (hh : h b = .inl (2, len, .inl (fun j => o_I (g j)))) (hle : len ≤ 2147483647) (hi : i = (j : Int)) (hj : j < len) (k9 : o_V l M d al post (pc + 1) ls (.int (o_I (g j)) :: st) n h mc ms) : o_V l M d al post pc ls (.int (o_I i) :: .ref b :: st) n h mc ms := by
  subst hi
  exact o_cald hd hb hh hle (by omega) (by omega) k9
variable {g : Nat → Nat → Int}
theorem o_iamn {b len j : Nat} {f : Nat → Int} {i z : Int} (hd : decode M.2.1 pc = .ok (.iastore, 1)) (hh : o_mem g b = .inl (0, len, .inl (fun j => o_I (f j)))) (hb : b < n) (hle : len ≤ 2147483647) (hi : i = (j : Int)) (hj : j < len) (hc : ∀ f' : Nat → Int, (Sum.inl (0, len, .inl (fun j => o_I (f' j))) : o_C) = o_FF b f' (g 190 9)) (h9 : (o_w g b (o_u f j z)) 190 9 = g 190 9) (k9 : o_V l M d al post (pc + 1) ls st n (o_mem (o_w g b (o_u f j z))) mc ms) : o_V l M d al post pc ls (.int (o_I z) :: .int (o_I i) :: .ref b :: st) n (o_mem g) mc ms := by
  subst hi
  exact o_iam hd hh hb hle (by omega) (by omega) hc h9 k9
theorem o_zamn {b len j : Nat} {f : Nat → Int} {i z : Int} (hd : decode M.2.1 pc = .ok (.bastore, 1)) (hh : o_mem g b = .inl (1, len, .inl (fun j => o_I (f j)))) (hb : b < n) (hle : len ≤ 2147483647) (hi : i = (j : Int)) (hj : j < len) (hz : z = 0 ∨ z = 1) (hc : ∀ f' : Nat → Int, (Sum.inl (1, len, .inl (fun j => o_I (f' j))) : o_C) = o_FF b f' (g 190 9)) (h9 : (o_w g b (o_u f j z)) 190 9 = g 190 9) (k9 : o_V l M d al post (pc + 1) ls st n (o_mem (o_w g b (o_u f j z))) mc ms) : o_V l M d al post pc ls (.int (o_I z) :: .int (o_I i) :: .ref b :: st) n (o_mem g) mc ms := by
  subst hi
  exact o_zam hd hh hb hle (by omega) (by omega) hz hc h9 k9
theorem o_camn {b len j : Nat} {f : Nat → Int} {i z : Int} (hd : decode M.2.1 pc = .ok (.castore, 1)) (hh : o_mem g b = .inl (2, len, .inl (fun j => o_I (f j)))) (hb : b < n) (hle : len ≤ 2147483647) (hi : i = (j : Int)) (hj : j < len) (hz : vp_nar .char (o_I z) = o_I z) (hc : ∀ f' : Nat → Int, (Sum.inl (2, len, .inl (fun j => o_I (f' j))) : o_C) = o_FF b f' (g 190 9)) (h9 : (o_w g b (o_u f j z)) 190 9 = g 190 9) (k9 : o_V l M d al post (pc + 1) ls st n (o_mem (o_w g b (o_u f j z))) mc ms) : o_V l M d al post pc ls (.int (o_I z) :: .int (o_I i) :: .ref b :: st) n (o_mem g) mc ms := by
  subst hi
  exact o_cam hd hh hb hle (by omega) (by omega) hz hc h9 k9
end OTX
