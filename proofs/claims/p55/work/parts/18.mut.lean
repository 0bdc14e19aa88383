/-! changes: an entry is set; what a call leaves as it was; the State's numbers follow -/
def o_e (g : Nat → Nat → Int) (b k : Nat) (z : Int) : Nat → Nat → Int := fun a j => if a = b ∧ j = k then z else g a j
theorem o_e_s {g : Nat → Nat → Int} {b k : Nat} {z : Int} : o_e g b k z b k = z := by simp [o_e]
theorem o_e_n {g : Nat → Nat → Int} {a b k : Nat} {z : Int} (h : a ≠ b) : o_e g b k z a = g a := by funext j; simp [o_e, h]
theorem o_e_k {g : Nat → Nat → Int} {b k j : Nat} {z : Int} (h : j ≠ k) : o_e g b k z b j = g b j := by simp [o_e, h]
theorem o_ew (g : Nat → Nat → Int) (b k : Nat) (z : Int) : o_w g b (o_u (g b) k z) = o_e g b k z := by
  funext a j
  by_cases q : a = b
  · subst q; simp [o_w, o_u, o_e]
  · simp [o_w, o_e, q]
def o_fr (S : Nat → Prop) (g g' : Nat → Nat → Int) : Prop := ∀ a, ¬ S a → g' a = g a
theorem o_fr_r {S : Nat → Prop} {g : Nat → Nat → Int} : o_fr S g g := fun _ _ => rfl
theorem o_fr_t {S : Nat → Prop} {g g1 g2 : Nat → Nat → Int} (h1 : o_fr S g g1) (h2 : o_fr S g1 g2) : o_fr S g g2 := fun a h => (h2 a h).trans (h1 a h)
theorem o_fr_e {S : Nat → Prop} {g g1 : Nat → Nat → Int} {b k : Nat} {z : Int} (h1 : o_fr S g g1) (hb : S b) : o_fr S g (o_e g1 b k z) := fun a h => (o_e_n (fun q => h (by rw [q]; exact hb))).trans (h1 a h)
theorem o_fr_m {S T : Nat → Prop} {g g' : Nat → Nat → Int} (h : o_fr S g g') (hm : ∀ a, S a → T a) : o_fr T g g' := fun a q => h a (fun p => q (hm a p))
/-- the cells of the State at b -/
def o_cs (b : Nat) : Nat → Prop := fun a => b ≤ a ∧ a < b + 14
def o_mt (v : Option Value) (Q : (Nat → Nat → Int) → Prop) : o_P := fun o n h => o = .inl v ∧ n = o_N ∧ ∃ g', h = o_mem g' ∧ Q g'
section OE
variable {l : Launch} {M : o_M} {d : Nat} {al : Nat → Prop} {post : o_P} {pc : Nat} {ls : List (Nat × Value)} {st : List Value} {n : Nat} {h : Nat → o_C} {mc ms : Nat} {g : Nat → Nat → Int}
theorem o_cVm {y : MethodName} {yb : ByteArray} {yL dy index b ci N : Nat} {yr : Option FieldType} {T : u_T} {fs : List Value} (As : List Value) {rest : List Value} {v : Option Value} {Q : (Nat → Nat → Int) → Prop}
    (hC : o_Ct l y (.code y yb yL yr) dy o_no (.ref b :: As) n h 0 0 (o_mt v Q)) (hd : decode M.2.1 pc = .ok (.invokevirtual index, 3)) (hw : Cond.methodLink M.1 index y ∈ o_gW) (hyw : o_yw y (.code y yb yL yr)) (hyd : o_yd y As.length = true) (hyL : yL ≤ 21)
    (hdy : dy < d) (hb : b < n) (hh : h b = .inr (ci, fs)) (hc : o_cl[ci]? = some (y.cls, T, N)) (hst : st = As.reverse ++ .ref b :: rest) (hcat : (rest.map fun v => v.category).sum ≤ 8)
    (k : ∀ g', Q g' → o_V l M d al post (pc + 3) ls (v.toList ++ rest) o_N (o_mem g') mc ms) : o_V l M d al post pc ls st n h mc ms :=
  o_callV As hC hd hw hyw hyd hyL hdy (Nat.zero_le _) (Nat.zero_le _) hb hh hc hst hcat (fun _ z => z.elim) (fun _ z => z.elim) (Or.inl fun _ z => z) (fun v' n' h9 q => by obtain ⟨q1, rfl, g', rfl, q2⟩ := q; cases q1; exact k g' q2) (fun E n' h9 q => by cases q.1)
theorem o_cSm {y : MethodName} {yb : ByteArray} {yL dy index : Nat} {yr : Option FieldType} (As : List Value) {rest : List Value} {v : Option Value} {Q : (Nat → Nat → Int) → Prop}
    (hC : o_Ct l y (.code y yb yL yr) dy o_no As n h 0 0 (o_mt v Q)) (hd : decode M.2.1 pc = .ok (.invokestatic index, 3)) (hw : Cond.methodLink M.1 index y ∈ o_gW) (hyw : o_ys y (.code y yb yL yr)) (hyd : o_yd y As.length = true) (hyL : yL ≤ 21)
    (hdy : dy < d) (hst : st = As.reverse ++ rest) (hcat : (rest.map fun v => v.category).sum ≤ 8)
    (k : ∀ g', Q g' → o_V l M d al post (pc + 3) ls (v.toList ++ rest) o_N (o_mem g') mc ms) : o_V l M d al post pc ls st n h mc ms :=
  o_callS As hC hd hw hyw hyd hyL hdy (Nat.zero_le _) (Nat.zero_le _) hst hcat (fun _ z => z.elim) (fun _ z => z.elim) (Or.inl fun _ z => z) (fun v' n' h9 q => by obtain ⟨q1, rfl, g', rfl, q2⟩ := q; cases q1; exact k g' q2) (fun E n' h9 q => by cases q.1)
theorem o_pmE {b ci k i : Nat} {fs : List Value} {z : Int} {ty : FieldType} (hd : decode M.2.1 pc = .ok (.putfield i, 3)) (hf : o_fp M.1 i ci k ty) (hh : o_mem g b = .inr (ci, fs)) (hb : b < n) (hl : k < fs.length) (hn : narrow ty (.int (o_I z)) = .int (o_I z)) (hf2 : fits ty (.int (o_I z)) = true) (hc : ∀ z : Int, Sum.inr (ci, fs.set k (.int (o_I z))) = o_FF b (o_u (g b) k z) (g 190 9)) (h9 : ¬ (b = 190 ∧ k = 9)) (k9 : ∀ g1, g1 = o_e g b k z → o_V l M d al post (pc + 3) ls st n (o_mem g1) mc ms) : o_V l M d al post pc ls (.int (o_I z) :: .ref b :: st) n (o_mem g) mc ms :=
  o_pm hd hf hh hb hl hn hf2 (hc z) (by rw [o_ew]; unfold o_e; exact if_neg (fun q => h9 ⟨q.1.symm, q.2.symm⟩)) (by rw [o_ew]; exact k9 _ rfl)
theorem o_iaE {b len : Nat} {i z : Int} (hd : decode M.2.1 pc = .ok (.iastore, 1)) (hh : o_mem g b = .inl (0, len, .inl (fun j => o_I (g b j)))) (hb : b < n) (hle : len ≤ 2147483647) (h0 : 0 ≤ i) (h1 : i < len) (hc : ∀ f' : Nat → Int, (Sum.inl (0, len, .inl (fun j => o_I (f' j))) : o_C) = o_FF b f' (g 190 9)) (h9 : b ≠ 190) (k9 : ∀ g1, g1 = o_e g b i.toNat z → o_V l M d al post (pc + 1) ls st n (o_mem g1) mc ms) : o_V l M d al post pc ls (.int (o_I z) :: .int (o_I i) :: .ref b :: st) n (o_mem g) mc ms :=
  o_iam hd hh hb hle h0 h1 hc (by rw [o_ew]; unfold o_e; exact if_neg (fun q => h9 q.1.symm)) (by rw [o_ew]; exact k9 _ rfl)
theorem o_iaEn {b len : Nat} {j : Nat} {i z : Int} (hd : decode M.2.1 pc = .ok (.iastore, 1)) (hh : o_mem g b = .inl (0, len, .inl (fun j => o_I (g b j)))) (hb : b < n) (hle : len ≤ 2147483647) (hi : i = (j : Int)) (h1 : j < len) (hc : ∀ f' : Nat → Int, (Sum.inl (0, len, .inl (fun j => o_I (f' j))) : o_C) = o_FF b f' (g 190 9)) (h9 : b ≠ 190) (k9 : ∀ g1, g1 = o_e g b j z → o_V l M d al post (pc + 1) ls st n (o_mem g1) mc ms) : o_V l M d al post pc ls (.int (o_I z) :: .int (o_I i) :: .ref b :: st) n (o_mem g) mc ms := by
  subst hi
  exact o_iaE hd hh hb hle (Int.natCast_nonneg j) (by exact_mod_cast h1) hc h9 k9
theorem o_zaE {b len : Nat} {i z : Int} (hd : decode M.2.1 pc = .ok (.bastore, 1)) (hh : o_mem g b = .inl (1, len, .inl (fun j => o_I (g b j)))) (hb : b < n) (hle : len ≤ 2147483647) (h0 : 0 ≤ i) (h1 : i < len) (hz : z = 0 ∨ z = 1) (hc : ∀ f' : Nat → Int, (Sum.inl (1, len, .inl (fun j => o_I (f' j))) : o_C) = o_FF b f' (g 190 9)) (h9 : b ≠ 190) (k9 : ∀ g1, g1 = o_e g b i.toNat z → o_V l M d al post (pc + 1) ls st n (o_mem g1) mc ms) : o_V l M d al post pc ls (.int (o_I z) :: .int (o_I i) :: .ref b :: st) n (o_mem g) mc ms :=
  o_zam hd hh hb hle h0 h1 hz hc (by rw [o_ew]; unfold o_e; exact if_neg (fun q => h9 q.1.symm)) (by rw [o_ew]; exact k9 _ rfl)
theorem o_zaEn {b len : Nat} {j : Nat} {i z : Int} (hd : decode M.2.1 pc = .ok (.bastore, 1)) (hh : o_mem g b = .inl (1, len, .inl (fun j => o_I (g b j)))) (hb : b < n) (hle : len ≤ 2147483647) (hi : i = (j : Int)) (h1 : j < len) (hz : z = 0 ∨ z = 1) (hc : ∀ f' : Nat → Int, (Sum.inl (1, len, .inl (fun j => o_I (f' j))) : o_C) = o_FF b f' (g 190 9)) (h9 : b ≠ 190) (k9 : ∀ g1, g1 = o_e g b j z → o_V l M d al post (pc + 1) ls st n (o_mem g1) mc ms) : o_V l M d al post pc ls (.int (o_I z) :: .int (o_I i) :: .ref b :: st) n (o_mem g) mc ms := by
  subst hi
  exact o_zaE hd hh hb hle (Int.natCast_nonneg j) (by exact_mod_cast h1) hz hc h9 k9
theorem o_caE {b len : Nat} {i z : Int} (hd : decode M.2.1 pc = .ok (.castore, 1)) (hh : o_mem g b = .inl (2, len, .inl (fun j => o_I (g b j)))) (hb : b < n) (hle : len ≤ 2147483647) (h0 : 0 ≤ i) (h1 : i < len) (hz0 : 0 ≤ z) (hz1 : z < 65536) (hc : ∀ f' : Nat → Int, (Sum.inl (2, len, .inl (fun j => o_I (f' j))) : o_C) = o_FF b f' (g 190 9)) (h9 : b ≠ 190) (k9 : ∀ g1, g1 = o_e g b i.toNat z → o_V l M d al post (pc + 1) ls st n (o_mem g1) mc ms) : o_V l M d al post pc ls (.int (o_I z) :: .int (o_I i) :: .ref b :: st) n (o_mem g) mc ms :=
  o_cam hd hh hb hle h0 h1 (by have := o_rcN z hz0 hz1; exact Value.int.inj this) hc (by rw [o_ew]; unfold o_e; exact if_neg (fun q => h9 q.1.symm)) (by rw [o_ew]; exact k9 _ rfl)
theorem o_caEn {b len : Nat} {j : Nat} {i z : Int} (hd : decode M.2.1 pc = .ok (.castore, 1)) (hh : o_mem g b = .inl (2, len, .inl (fun j => o_I (g b j)))) (hb : b < n) (hle : len ≤ 2147483647) (hi : i = (j : Int)) (h1 : j < len) (hz0 : 0 ≤ z) (hz1 : z < 65536) (hc : ∀ f' : Nat → Int, (Sum.inl (2, len, .inl (fun j => o_I (f' j))) : o_C) = o_FF b f' (g 190 9)) (h9 : b ≠ 190) (k9 : ∀ g1, g1 = o_e g b j z → o_V l M d al post (pc + 1) ls st n (o_mem g1) mc ms) : o_V l M d al post pc ls (.int (o_I z) :: .int (o_I i) :: .ref b :: st) n (o_mem g) mc ms := by
  subst hi
  exact o_caE hd hh hb hle (Int.natCast_nonneg j) (by exact_mod_cast h1) hz0 hz1 hc h9 k9
end OE
theorem o_st_1 {g M : Nat → Nat → Int} (h : o_st g M) (i : Nat) (z : Int) : o_st (o_e g 3 i (z)) (o_e M 1 i z) := by
  obtain ⟨⟨h1, h2⟩, ⟨h3, h4⟩, ⟨h5, h6⟩, h7, h8, h9, h10⟩ := h
  refine ⟨⟨by simpa [o_e] using h1, fun k hk => ?_⟩, ⟨by simpa [o_e] using h3, fun k hk => ?_⟩, ⟨by simpa [o_e] using h5, fun k hk => ?_⟩, by simpa [o_e] using h7, by simpa [o_e] using h8, by simpa [o_e] using h9, by simpa [o_e] using h10⟩
  · have q := h2 k (by simpa [o_e] using hk)
    by_cases c : k = i <;> simp [o_e, c] at q ⊢ <;> simp [q]
  · have q := h4 k (by simpa [o_e] using hk)
    by_cases c : k = i <;> simp [o_e, c] at q ⊢ <;> simp [q]
  · have q := h6 k (by simpa [o_e] using hk)
    by_cases c : k = i <;> simp [o_e, c] at q ⊢ <;> simp [q]
theorem o_st_2 {g M : Nat → Nat → Int} (h : o_st g M) (i : Nat) (z : Int) : o_st (o_e g 4 i (z)) (o_e M 2 i z) := by
  obtain ⟨⟨h1, h2⟩, ⟨h3, h4⟩, ⟨h5, h6⟩, h7, h8, h9, h10⟩ := h
  refine ⟨⟨by simpa [o_e] using h1, fun k hk => ?_⟩, ⟨by simpa [o_e] using h3, fun k hk => ?_⟩, ⟨by simpa [o_e] using h5, fun k hk => ?_⟩, by simpa [o_e] using h7, by simpa [o_e] using h8, by simpa [o_e] using h9, by simpa [o_e] using h10⟩
  · have q := h2 k (by simpa [o_e] using hk)
    by_cases c : k = i <;> simp [o_e, c] at q ⊢ <;> simp [q]
  · have q := h4 k (by simpa [o_e] using hk)
    by_cases c : k = i <;> simp [o_e, c] at q ⊢ <;> simp [q]
  · have q := h6 k (by simpa [o_e] using hk)
    by_cases c : k = i <;> simp [o_e, c] at q ⊢ <;> simp [q]
theorem o_st_3 {g M : Nat → Nat → Int} (h : o_st g M) (i : Nat) (z : Int) : o_st (o_e g 5 i (z)) (o_e M 3 i z) := by
  obtain ⟨⟨h1, h2⟩, ⟨h3, h4⟩, ⟨h5, h6⟩, h7, h8, h9, h10⟩ := h
  refine ⟨⟨by simpa [o_e] using h1, fun k hk => ?_⟩, ⟨by simpa [o_e] using h3, fun k hk => ?_⟩, ⟨by simpa [o_e] using h5, fun k hk => ?_⟩, by simpa [o_e] using h7, by simpa [o_e] using h8, by simpa [o_e] using h9, by simpa [o_e] using h10⟩
  · have q := h2 k (by simpa [o_e] using hk)
    by_cases c : k = i <;> simp [o_e, c] at q ⊢ <;> simp [q]
  · have q := h4 k (by simpa [o_e] using hk)
    by_cases c : k = i <;> simp [o_e, c] at q ⊢ <;> simp [q]
  · have q := h6 k (by simpa [o_e] using hk)
    by_cases c : k = i <;> simp [o_e, c] at q ⊢ <;> simp [q]
theorem o_st_4 {g M : Nat → Nat → Int} (h : o_st g M) (i : Nat) (z : Int) : o_st (o_e g 7 i (z)) (o_e M 4 i z) := by
  obtain ⟨⟨h1, h2⟩, ⟨h3, h4⟩, ⟨h5, h6⟩, h7, h8, h9, h10⟩ := h
  refine ⟨⟨by simpa [o_e] using h1, fun k hk => ?_⟩, ⟨by simpa [o_e] using h3, fun k hk => ?_⟩, ⟨by simpa [o_e] using h5, fun k hk => ?_⟩, by simpa [o_e] using h7, by simpa [o_e] using h8, by simpa [o_e] using h9, by simpa [o_e] using h10⟩
  · have q := h2 k (by simpa [o_e] using hk)
    by_cases c : k = i <;> simp [o_e, c] at q ⊢ <;> simp [q]
  · have q := h4 k (by simpa [o_e] using hk)
    by_cases c : k = i <;> simp [o_e, c] at q ⊢ <;> simp [q]
  · have q := h6 k (by simpa [o_e] using hk)
    by_cases c : k = i <;> simp [o_e, c] at q ⊢ <;> simp [q]
theorem o_st_5 {g M : Nat → Nat → Int} (h : o_st g M) (i : Nat) (z : Int) : o_st (o_e g 8 i (z - 1)) (o_e M 5 i z) := by
  obtain ⟨⟨h1, h2⟩, ⟨h3, h4⟩, ⟨h5, h6⟩, h7, h8, h9, h10⟩ := h
  refine ⟨⟨by simpa [o_e] using h1, fun k hk => ?_⟩, ⟨by simpa [o_e] using h3, fun k hk => ?_⟩, ⟨by simpa [o_e] using h5, fun k hk => ?_⟩, by simpa [o_e] using h7, by simpa [o_e] using h8, by simpa [o_e] using h9, by simpa [o_e] using h10⟩
  · have q := h2 k (by simpa [o_e] using hk)
    by_cases c : k = i <;> simp [o_e, c] at q ⊢ <;> simp [q]
  · have q := h4 k (by simpa [o_e] using hk)
    by_cases c : k = i <;> simp [o_e, c] at q ⊢ <;> simp [q]
  · have q := h6 k (by simpa [o_e] using hk)
    by_cases c : k = i <;> simp [o_e, c] at q ⊢ <;> simp [q]
theorem o_st_6 {g M : Nat → Nat → Int} (h : o_st g M) (i : Nat) (z : Int) : o_st (o_e g 9 i (z)) (o_e M 6 i z) := by
  obtain ⟨⟨h1, h2⟩, ⟨h3, h4⟩, ⟨h5, h6⟩, h7, h8, h9, h10⟩ := h
  refine ⟨⟨by simpa [o_e] using h1, fun k hk => ?_⟩, ⟨by simpa [o_e] using h3, fun k hk => ?_⟩, ⟨by simpa [o_e] using h5, fun k hk => ?_⟩, by simpa [o_e] using h7, by simpa [o_e] using h8, by simpa [o_e] using h9, by simpa [o_e] using h10⟩
  · have q := h2 k (by simpa [o_e] using hk)
    by_cases c : k = i <;> simp [o_e, c] at q ⊢ <;> simp [q]
  · have q := h4 k (by simpa [o_e] using hk)
    by_cases c : k = i <;> simp [o_e, c] at q ⊢ <;> simp [q]
  · have q := h6 k (by simpa [o_e] using hk)
    by_cases c : k = i <;> simp [o_e, c] at q ⊢ <;> simp [q]
theorem o_st_7 {g M : Nat → Nat → Int} (h : o_st g M) (i : Nat) (z : Int) : o_st (o_e g 10 i (z)) (o_e M 7 i z) := by
  obtain ⟨⟨h1, h2⟩, ⟨h3, h4⟩, ⟨h5, h6⟩, h7, h8, h9, h10⟩ := h
  refine ⟨⟨by simpa [o_e] using h1, fun k hk => ?_⟩, ⟨by simpa [o_e] using h3, fun k hk => ?_⟩, ⟨by simpa [o_e] using h5, fun k hk => ?_⟩, by simpa [o_e] using h7, by simpa [o_e] using h8, by simpa [o_e] using h9, by simpa [o_e] using h10⟩
  · have q := h2 k (by simpa [o_e] using hk)
    by_cases c : k = i <;> simp [o_e, c] at q ⊢ <;> simp [q]
  · have q := h4 k (by simpa [o_e] using hk)
    by_cases c : k = i <;> simp [o_e, c] at q ⊢ <;> simp [q]
  · have q := h6 k (by simpa [o_e] using hk)
    by_cases c : k = i <;> simp [o_e, c] at q ⊢ <;> simp [q]
theorem o_st_8 {g M : Nat → Nat → Int} (h : o_st g M) (i : Nat) (z : Int) : o_st (o_e g 11 i (z)) (o_e M 8 i z) := by
  obtain ⟨⟨h1, h2⟩, ⟨h3, h4⟩, ⟨h5, h6⟩, h7, h8, h9, h10⟩ := h
  refine ⟨⟨by simpa [o_e] using h1, fun k hk => ?_⟩, ⟨by simpa [o_e] using h3, fun k hk => ?_⟩, ⟨by simpa [o_e] using h5, fun k hk => ?_⟩, by simpa [o_e] using h7, by simpa [o_e] using h8, by simpa [o_e] using h9, by simpa [o_e] using h10⟩
  · have q := h2 k (by simpa [o_e] using hk)
    by_cases c : k = i <;> simp [o_e, c] at q ⊢ <;> simp [q]
  · have q := h4 k (by simpa [o_e] using hk)
    by_cases c : k = i <;> simp [o_e, c] at q ⊢ <;> simp [q]
  · have q := h6 k (by simpa [o_e] using hk)
    by_cases c : k = i <;> simp [o_e, c] at q ⊢ <;> simp [q]
theorem o_st_9 {g M : Nat → Nat → Int} (h : o_st g M) (i : Nat) (z : Int) : o_st (o_e g 13 i (z)) (o_e M 9 i z) := by
  obtain ⟨⟨h1, h2⟩, ⟨h3, h4⟩, ⟨h5, h6⟩, h7, h8, h9, h10⟩ := h
  refine ⟨⟨by simpa [o_e] using h1, fun k hk => ?_⟩, ⟨by simpa [o_e] using h3, fun k hk => ?_⟩, ⟨by simpa [o_e] using h5, fun k hk => ?_⟩, by simpa [o_e] using h7, by simpa [o_e] using h8, by simpa [o_e] using h9, by simpa [o_e] using h10⟩
  · have q := h2 k (by simpa [o_e] using hk)
    by_cases c : k = i <;> simp [o_e, c] at q ⊢ <;> simp [q]
  · have q := h4 k (by simpa [o_e] using hk)
    by_cases c : k = i <;> simp [o_e, c] at q ⊢ <;> simp [q]
  · have q := h6 k (by simpa [o_e] using hk)
    by_cases c : k = i <;> simp [o_e, c] at q ⊢ <;> simp [q]
theorem o_st_10 {g M : Nat → Nat → Int} (h : o_st g M) (i : Nat) (z : Int) : o_st (o_e g 14 i (z)) (o_e M 10 i z) := by
  obtain ⟨⟨h1, h2⟩, ⟨h3, h4⟩, ⟨h5, h6⟩, h7, h8, h9, h10⟩ := h
  refine ⟨⟨by simpa [o_e] using h1, fun k hk => ?_⟩, ⟨by simpa [o_e] using h3, fun k hk => ?_⟩, ⟨by simpa [o_e] using h5, fun k hk => ?_⟩, by simpa [o_e] using h7, by simpa [o_e] using h8, by simpa [o_e] using h9, by simpa [o_e] using h10⟩
  · have q := h2 k (by simpa [o_e] using hk)
    by_cases c : k = i <;> simp [o_e, c] at q ⊢ <;> simp [q]
  · have q := h4 k (by simpa [o_e] using hk)
    by_cases c : k = i <;> simp [o_e, c] at q ⊢ <;> simp [q]
  · have q := h6 k (by simpa [o_e] using hk)
    by_cases c : k = i <;> simp [o_e, c] at q ⊢ <;> simp [q]
theorem o_st_0_2 {g M : Nat → Nat → Int} (h : o_st g M) (z : Int) : o_st (o_e g 1 3 z) (o_e M 0 2 z) := by
  obtain ⟨⟨h1, h2⟩, ⟨h3, h4⟩, ⟨h5, h6⟩, h7, h8, h9, h10⟩ := h
  refine ⟨⟨by simpa [o_e] using h1, fun k hk => ?_⟩, ⟨by simpa [o_e] using h3, fun k hk => ?_⟩, ⟨by simpa [o_e] using h5, fun k hk => ?_⟩, ?_, ?_, ?_, ?_⟩
  · have q := h2 k (by simpa [o_e] using hk)
    simpa [o_e] using q
  · have q := h4 k (by simpa [o_e] using hk)
    simpa [o_e] using q
  · have q := h6 k (by simpa [o_e] using hk)
    simpa [o_e] using q
  all_goals simp [o_e]
  all_goals assumption
theorem o_st_0_3 {g M : Nat → Nat → Int} (h : o_st g M) (z : Int) : o_st (o_e g 1 4 z) (o_e M 0 3 z) := by
  obtain ⟨⟨h1, h2⟩, ⟨h3, h4⟩, ⟨h5, h6⟩, h7, h8, h9, h10⟩ := h
  refine ⟨⟨by simpa [o_e] using h1, fun k hk => ?_⟩, ⟨by simpa [o_e] using h3, fun k hk => ?_⟩, ⟨by simpa [o_e] using h5, fun k hk => ?_⟩, ?_, ?_, ?_, ?_⟩
  · have q := h2 k (by simpa [o_e] using hk)
    simpa [o_e] using q
  · have q := h4 k (by simpa [o_e] using hk)
    simpa [o_e] using q
  · have q := h6 k (by simpa [o_e] using hk)
    simpa [o_e] using q
  all_goals simp [o_e]
  all_goals assumption
theorem o_st_0_5 {g M : Nat → Nat → Int} (h : o_st g M) (z : Int) : o_st (o_e g 1 5 z) (o_e M 0 5 z) := by
  obtain ⟨⟨h1, h2⟩, ⟨h3, h4⟩, ⟨h5, h6⟩, h7, h8, h9, h10⟩ := h
  refine ⟨⟨by simpa [o_e] using h1, fun k hk => ?_⟩, ⟨by simpa [o_e] using h3, fun k hk => ?_⟩, ⟨by simpa [o_e] using h5, fun k hk => ?_⟩, ?_, ?_, ?_, ?_⟩
  · have q := h2 k (by simpa [o_e] using hk)
    simpa [o_e] using q
  · have q := h4 k (by simpa [o_e] using hk)
    simpa [o_e] using q
  · have q := h6 k (by simpa [o_e] using hk)
    simpa [o_e] using q
  all_goals simp [o_e]
  all_goals assumption
theorem o_st_0_4 {g M : Nat → Nat → Int} (h : o_st g M) (z : Int) : o_st (o_e g 1 6 z) (o_e M 0 4 z) := by
  obtain ⟨⟨h1, h2⟩, ⟨h3, h4⟩, ⟨h5, h6⟩, h7, h8, h9, h10⟩ := h
  refine ⟨⟨by simpa [o_e] using h1, fun k hk => ?_⟩, ⟨by simpa [o_e] using h3, fun k hk => ?_⟩, ⟨by simpa [o_e] using h5, fun k hk => ?_⟩, ?_, ?_, ?_, ?_⟩
  · have q := h2 k (by simpa [o_e] using hk)
    simpa [o_e] using q
  · have q := h4 k (by simpa [o_e] using hk)
    simpa [o_e] using q
  · have q := h6 k (by simpa [o_e] using hk)
    simpa [o_e] using q
  all_goals simp [o_e]
  all_goals assumption
