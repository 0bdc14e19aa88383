/-- the State at b, in the shape -/
def o_SB (b : Nat) : Prop := (∀ (f : Nat → Int) (z : Int), o_FF (b) f z = .inr (1, [.ref (b + 1), .ref (b + 5), .ref (b + 11), .int (o_I (f 3)), .int (o_I (f 4)), .int (o_I (f 5)), .int (o_I (f 6))])) ∧ (∀ (f : Nat → Int) (z : Int), o_FF (b + 1) f z = .inr (2, [.int (o_I (f 0)), .ref (b + 2), .ref (b + 3), .ref (b + 4)])) ∧ (∀ (f : Nat → Int) (z : Int), o_FF (b + 2) f z = .inl (0, 6, .inl (fun j => o_I (f j)))) ∧ (∀ (f : Nat → Int) (z : Int), o_FF (b + 3) f z = .inl (0, 6, .inl (fun j => o_I (f j)))) ∧ (∀ (f : Nat → Int) (z : Int), o_FF (b + 4) f z = .inl (0, 6, .inl (fun j => o_I (f j)))) ∧ (∀ (f : Nat → Int) (z : Int), o_FF (b + 5) f z = .inr (3, [.int (o_I (f 0)), .ref (b + 6), .ref (b + 7), .ref (b + 8), .ref (b + 9), .ref (b + 10)])) ∧ (∀ (f : Nat → Int) (z : Int), o_FF (b + 6) f z = .inl (0, 8, .inl (fun j => o_I (f j)))) ∧ (∀ (f : Nat → Int) (z : Int), o_FF (b + 7) f z = .inl (0, 8, .inl (fun j => o_I (f j)))) ∧ (∀ (f : Nat → Int) (z : Int), o_FF (b + 8) f z = .inl (0, 8, .inl (fun j => o_I (f j)))) ∧ (∀ (f : Nat → Int) (z : Int), o_FF (b + 9) f z = .inl (0, 8, .inl (fun j => o_I (f j)))) ∧ (∀ (f : Nat → Int) (z : Int), o_FF (b + 10) f z = .inl (1, 8, .inl (fun j => o_I (f j)))) ∧ (∀ (f : Nat → Int) (z : Int), o_FF (b + 11) f z = .inr (4, [.int (o_I (f 0)), .ref (b + 12), .ref (b + 13)])) ∧ (∀ (f : Nat → Int) (z : Int), o_FF (b + 12) f z = .inl (0, 8, .inl (fun j => o_I (f j)))) ∧ (∀ (f : Nat → Int) (z : Int), o_FF (b + 13) f z = .inl (0, 8, .inl (fun j => o_I (f j)))) ∧ b + 14 ≤ 190
theorem o_SB.F0 {b : Nat} (h : o_SB b) : ∀ (f : Nat → Int) (z : Int), o_FF (b) f z = .inr (1, [.ref (b + 1), .ref (b + 5), .ref (b + 11), .int (o_I (f 3)), .int (o_I (f 4)), .int (o_I (f 5)), .int (o_I (f 6))]) := h.1
theorem o_SB.F1 {b : Nat} (h : o_SB b) : ∀ (f : Nat → Int) (z : Int), o_FF (b + 1) f z = .inr (2, [.int (o_I (f 0)), .ref (b + 2), .ref (b + 3), .ref (b + 4)]) := h.2.1
theorem o_SB.F2 {b : Nat} (h : o_SB b) : ∀ (f : Nat → Int) (z : Int), o_FF (b + 2) f z = .inl (0, 6, .inl (fun j => o_I (f j))) := h.2.2.1
theorem o_SB.F3 {b : Nat} (h : o_SB b) : ∀ (f : Nat → Int) (z : Int), o_FF (b + 3) f z = .inl (0, 6, .inl (fun j => o_I (f j))) := h.2.2.2.1
theorem o_SB.F4 {b : Nat} (h : o_SB b) : ∀ (f : Nat → Int) (z : Int), o_FF (b + 4) f z = .inl (0, 6, .inl (fun j => o_I (f j))) := h.2.2.2.2.1
theorem o_SB.F5 {b : Nat} (h : o_SB b) : ∀ (f : Nat → Int) (z : Int), o_FF (b + 5) f z = .inr (3, [.int (o_I (f 0)), .ref (b + 6), .ref (b + 7), .ref (b + 8), .ref (b + 9), .ref (b + 10)]) := h.2.2.2.2.2.1
theorem o_SB.F6 {b : Nat} (h : o_SB b) : ∀ (f : Nat → Int) (z : Int), o_FF (b + 6) f z = .inl (0, 8, .inl (fun j => o_I (f j))) := h.2.2.2.2.2.2.1
theorem o_SB.F7 {b : Nat} (h : o_SB b) : ∀ (f : Nat → Int) (z : Int), o_FF (b + 7) f z = .inl (0, 8, .inl (fun j => o_I (f j))) := h.2.2.2.2.2.2.2.1
theorem o_SB.F8 {b : Nat} (h : o_SB b) : ∀ (f : Nat → Int) (z : Int), o_FF (b + 8) f z = .inl (0, 8, .inl (fun j => o_I (f j))) := h.2.2.2.2.2.2.2.2.1
theorem o_SB.F9 {b : Nat} (h : o_SB b) : ∀ (f : Nat → Int) (z : Int), o_FF (b + 9) f z = .inl (0, 8, .inl (fun j => o_I (f j))) := h.2.2.2.2.2.2.2.2.2.1
theorem o_SB.F10 {b : Nat} (h : o_SB b) : ∀ (f : Nat → Int) (z : Int), o_FF (b + 10) f z = .inl (1, 8, .inl (fun j => o_I (f j))) := h.2.2.2.2.2.2.2.2.2.2.1
theorem o_SB.F11 {b : Nat} (h : o_SB b) : ∀ (f : Nat → Int) (z : Int), o_FF (b + 11) f z = .inr (4, [.int (o_I (f 0)), .ref (b + 12), .ref (b + 13)]) := h.2.2.2.2.2.2.2.2.2.2.2.1
theorem o_SB.F12 {b : Nat} (h : o_SB b) : ∀ (f : Nat → Int) (z : Int), o_FF (b + 12) f z = .inl (0, 8, .inl (fun j => o_I (f j))) := h.2.2.2.2.2.2.2.2.2.2.2.2.1
theorem o_SB.F13 {b : Nat} (h : o_SB b) : ∀ (f : Nat → Int) (z : Int), o_FF (b + 13) f z = .inl (0, 8, .inl (fun j => o_I (f j))) := h.2.2.2.2.2.2.2.2.2.2.2.2.2.1
theorem o_SB.hn {b : Nat} (h : o_SB b) : b + 14 ≤ 190 := h.2.2.2.2.2.2.2.2.2.2.2.2.2.2
theorem o_SB_1 : o_SB 1 := ⟨fun _ _ => rfl, fun _ _ => rfl, fun _ _ => rfl, fun _ _ => rfl, fun _ _ => rfl, fun _ _ => rfl, fun _ _ => rfl, fun _ _ => rfl, fun _ _ => rfl, fun _ _ => rfl, fun _ _ => rfl, fun _ _ => rfl, fun _ _ => rfl, fun _ _ => rfl, by decide⟩
theorem o_SB_15 : o_SB 15 := ⟨fun _ _ => rfl, fun _ _ => rfl, fun _ _ => rfl, fun _ _ => rfl, fun _ _ => rfl, fun _ _ => rfl, fun _ _ => rfl, fun _ _ => rfl, fun _ _ => rfl, fun _ _ => rfl, fun _ _ => rfl, fun _ _ => rfl, fun _ _ => rfl, fun _ _ => rfl, by decide⟩
theorem o_SB_29 : o_SB 29 := ⟨fun _ _ => rfl, fun _ _ => rfl, fun _ _ => rfl, fun _ _ => rfl, fun _ _ => rfl, fun _ _ => rfl, fun _ _ => rfl, fun _ _ => rfl, fun _ _ => rfl, fun _ _ => rfl, fun _ _ => rfl, fun _ _ => rfl, fun _ _ => rfl, fun _ _ => rfl, by decide⟩
theorem o_SB_45 : o_SB 45 := ⟨fun _ _ => rfl, fun _ _ => rfl, fun _ _ => rfl, fun _ _ => rfl, fun _ _ => rfl, fun _ _ => rfl, fun _ _ => rfl, fun _ _ => rfl, fun _ _ => rfl, fun _ _ => rfl, fun _ _ => rfl, fun _ _ => rfl, fun _ _ => rfl, fun _ _ => rfl, by decide⟩
theorem o_SB_59 : o_SB 59 := ⟨fun _ _ => rfl, fun _ _ => rfl, fun _ _ => rfl, fun _ _ => rfl, fun _ _ => rfl, fun _ _ => rfl, fun _ _ => rfl, fun _ _ => rfl, fun _ _ => rfl, fun _ _ => rfl, fun _ _ => rfl, fun _ _ => rfl, fun _ _ => rfl, fun _ _ => rfl, by decide⟩
theorem o_SB_73 : o_SB 73 := ⟨fun _ _ => rfl, fun _ _ => rfl, fun _ _ => rfl, fun _ _ => rfl, fun _ _ => rfl, fun _ _ => rfl, fun _ _ => rfl, fun _ _ => rfl, fun _ _ => rfl, fun _ _ => rfl, fun _ _ => rfl, fun _ _ => rfl, fun _ _ => rfl, fun _ _ => rfl, by decide⟩
theorem o_SB_87 : o_SB 87 := ⟨fun _ _ => rfl, fun _ _ => rfl, fun _ _ => rfl, fun _ _ => rfl, fun _ _ => rfl, fun _ _ => rfl, fun _ _ => rfl, fun _ _ => rfl, fun _ _ => rfl, fun _ _ => rfl, fun _ _ => rfl, fun _ _ => rfl, fun _ _ => rfl, fun _ _ => rfl, by decide⟩
theorem o_SB_101 : o_SB 101 := ⟨fun _ _ => rfl, fun _ _ => rfl, fun _ _ => rfl, fun _ _ => rfl, fun _ _ => rfl, fun _ _ => rfl, fun _ _ => rfl, fun _ _ => rfl, fun _ _ => rfl, fun _ _ => rfl, fun _ _ => rfl, fun _ _ => rfl, fun _ _ => rfl, fun _ _ => rfl, by decide⟩
theorem o_SB_115 : o_SB 115 := ⟨fun _ _ => rfl, fun _ _ => rfl, fun _ _ => rfl, fun _ _ => rfl, fun _ _ => rfl, fun _ _ => rfl, fun _ _ => rfl, fun _ _ => rfl, fun _ _ => rfl, fun _ _ => rfl, fun _ _ => rfl, fun _ _ => rfl, fun _ _ => rfl, fun _ _ => rfl, by decide⟩
theorem o_SB_129 : o_SB 129 := ⟨fun _ _ => rfl, fun _ _ => rfl, fun _ _ => rfl, fun _ _ => rfl, fun _ _ => rfl, fun _ _ => rfl, fun _ _ => rfl, fun _ _ => rfl, fun _ _ => rfl, fun _ _ => rfl, fun _ _ => rfl, fun _ _ => rfl, fun _ _ => rfl, fun _ _ => rfl, by decide⟩
theorem o_SB_143 : o_SB 143 := ⟨fun _ _ => rfl, fun _ _ => rfl, fun _ _ => rfl, fun _ _ => rfl, fun _ _ => rfl, fun _ _ => rfl, fun _ _ => rfl, fun _ _ => rfl, fun _ _ => rfl, fun _ _ => rfl, fun _ _ => rfl, fun _ _ => rfl, fun _ _ => rfl, fun _ _ => rfl, by decide⟩
theorem o_SBr {k : Nat} (h : k < 8) : o_SB (45 + 14 * k) := by
  rcases (show k = 0 ∨ k = 1 ∨ k = 2 ∨ k = 3 ∨ k = 4 ∨ k = 5 ∨ k = 6 ∨ k = 7 by omega) with rfl | rfl | rfl | rfl | rfl | rfl | rfl | rfl
  · exact o_SB_45
  · exact o_SB_59
  · exact o_SB_73
  · exact o_SB_87
  · exact o_SB_101
  · exact o_SB_115
  · exact o_SB_129
  · exact o_SB_143
def o_stb (g : Nat → Nat → Int) (b : Nat) (M : Nat → Nat → Int) : Prop := o_rs g (b + 1) M ∧ o_rl g (b + 5) M ∧ o_rq g (b + 11) M ∧ g b 3 = M 0 2 ∧ g b 4 = M 0 3 ∧ g b 5 = M 0 5 ∧ g b 6 = M 0 4
theorem o_stb1 {g M : Nat → Nat → Int} : o_stb g 1 M ↔ o_st g M := Iff.rfl
theorem o_stb_fr {g g' M : Nat → Nat → Int} {b : Nat} {S : Nat → Prop} (h : o_stb g b M) (hf : o_fr S g g') (hS : ∀ a, b ≤ a → a < b + 14 → ¬ S a) : o_stb g' b M := by
  obtain ⟨⟨h1, h2⟩, ⟨h3, h4⟩, ⟨h5, h6⟩, h7, h8, h9, h10⟩ := h
  have e : ∀ k, k < 14 → g' (b + k) = g (b + k) := fun k hk => hf _ (hS _ (by omega) (by omega))
  have e0 := e 0 (by decide)
  refine ⟨⟨by rw [e 1 (by decide)]; exact h1, fun i hi => ?_⟩, ⟨by rw [e 5 (by decide)]; exact h3, fun i hi => ?_⟩, ⟨by rw [e 11 (by decide)]; exact h5, fun i hi => ?_⟩, by rw [show g' b = g b from e0]; exact h7, by rw [show g' b = g b from e0]; exact h8, by rw [show g' b = g b from e0]; exact h9, by rw [show g' b = g b from e0]; exact h10⟩
  · have := h2 i hi
    rw [show g' (b + 1 + 1) = g (b + 1 + 1) from e 2 (by decide), show g' (b + 1 + 2) = g (b + 1 + 2) from e 3 (by decide), show g' (b + 1 + 3) = g (b + 1 + 3) from e 4 (by decide)]
    exact this
  · have := h4 i hi
    rw [show g' (b + 5 + 1) = g (b + 5 + 1) from e 6 (by decide), show g' (b + 5 + 2) = g (b + 5 + 2) from e 7 (by decide), show g' (b + 5 + 3) = g (b + 5 + 3) from e 8 (by decide), show g' (b + 5 + 4) = g (b + 5 + 4) from e 9 (by decide), show g' (b + 5 + 5) = g (b + 5 + 5) from e 10 (by decide)]
    exact this
  · have := h6 i hi
    rw [show g' (b + 11 + 1) = g (b + 11 + 1) from e 12 (by decide), show g' (b + 11 + 2) = g (b + 11 + 2) from e 13 (by decide)]
    exact this
theorem o_Isurj (x : Int32) : ∃ w : Int, x = o_I w := ⟨x.toInt, (Int32.ofInt_toInt x).symm⟩
theorem o_zW (z : Int) : ∃ w : Int, vp_nar .boolean (o_I z) = o_I w ∧ (z = 0 ∨ z = 1 → w = z) := by
  by_cases q : z = 0 ∨ z = 1
  · exact ⟨z, by rcases q with rfl | rfl <;> decide +kernel, fun _ => rfl⟩
  · obtain ⟨w, hw⟩ := o_Isurj (vp_nar .boolean (o_I z))
    exact ⟨w, hw, fun h => absurd h q⟩
section OZW
variable {l : Launch} {M : o_M} {d : Nat} {al : Nat → Prop} {post : o_P} {pc : Nat} {ls : List (Nat × Value)} {st : List Value} {n : Nat} {h : Nat → o_C} {mc ms : Nat} {g : Nat → Nat → Int}
/-- any int is put into a boolean array: 0 and 1 stay -/
theorem o_zaW {b len j : Nat} {i z : Int} (hd : decode M.2.1 pc = .ok (.bastore, 1)) (hh : o_mem g b = .inl (1, len, .inl (fun j => o_I (g b j)))) (hb : b < n) (hle : len ≤ 2147483647) (hi : i = (j : Int)) (h1 : j < len) (hc : ∀ f' : Nat → Int, (Sum.inl (1, len, .inl (fun j => o_I (f' j))) : o_C) = o_FF b f' (g 190 9)) (h9 : b ≠ 190) (k9 : ∀ w g1, (z = 0 ∨ z = 1 → w = z) → g1 = o_e g b j w → o_V l M d al post (pc + 1) ls st n (o_mem g1) mc ms) : o_V l M d al post pc ls (.int (o_I z) :: .int (o_I i) :: .ref b :: st) n (o_mem g) mc ms := by
  subst hi
  obtain ⟨w, hw, hw2⟩ := o_zW z
  have hr : o_R (j : Int) := ⟨by omega, by omega⟩
  intro Z p e R s m args below meth c ad H locs cells slots MC MS la Q X E S P a1 a2 a3 a4 L K
  refine va_zast (D := Z.2.1) (cl := o_cl) (tys := o_tys Z) X.1 X.2.1 E.2.1 P.1 P.2 S b 1 (o_rW_get hb hh) (o_tys_get rfl) (o_in hr (show (0 : Int) ≤ (j : Int) by omega) (show (j : Int) < (len : Int) by omega)) hd (fun H1 locs1 hP hD hS => ?_)
  have e9 : o_up (o_mem g) b (.inl (1, len, .inl (fun j' => o_I (o_u (g b) j w j')))) = o_mem (o_e g b j w) := by
    rw [← o_ew]
    exact o_mw (hc _) (by rw [o_ew]; unfold o_e; exact if_neg (fun q => h9 q.1.symm))
  exact k9 w _ hw2 rfl Z p e R s m args below meth c ad H1 locs1 cells slots MC MS la Q X E hS (o_Rp.set (by rw [hw, o_clamp hr, o_uI]; rfl) e9 hP hD) a1 a2 a3 a4 L K
end OZW
set_option maxRecDepth 100000 in
set_option maxHeartbeats 4000000 in
/-- copyFrom(ships) -/
theorem ct_X9_copyFrom {l : Launch} (hl : l.stackTraces = false) (d : Nat) (g : Nat → Nat → Int) (b c : Nat) (hB : o_SB b) (hC : o_SB c) (hbc : b + 14 ≤ c ∨ c + 14 ≤ b) : o_Ct l yX9_copyFrom wX9_copyFrom (d + 1) o_no [.ref (b + 1), .ref (c + 1)] o_N (o_mem g) 0 0 (o_mt (none) (fun g' => g' (b + 1) 0 = g (c + 1) 0 ∧ (∀ j : Nat, j < 6 → g' (b + 2) j = g (c + 2) j ∧ g' (b + 3) j = g (c + 3) j ∧ g' (b + 4) j = g (c + 4) j) ∧ o_fr (fun a => b + 1 ≤ a ∧ a ≤ b + 4) g g')) := by
  refine o_Ct.ofV hl mX9_copyFrom (by decide +kernel) rfl rfl rfl (Nat.le_of_ble_eq_true rfl) ?_
  have hn1 := hB.hn
  have hn2 := hC.hn
  have key := o_lp (fun i => ∀ g1, (g1 (b + 1) 0 = g (c + 1) 0 ∧ (∀ j : Nat, j < i → g1 (b + 2) j = g (c + 2) j ∧ g1 (b + 3) j = g (c + 3) j ∧ g1 (b + 4) j = g (c + 4) j) ∧ o_fr (fun a => b + 1 ≤ a ∧ a ≤ b + 4) g g1) → o_V l mX9_copyFrom (d + 1) o_no (o_mt (none) (fun g' => g' (b + 1) 0 = g (c + 1) 0 ∧ (∀ j : Nat, j < 6 → g' (b + 2) j = g (c + 2) j ∧ g' (b + 3) j = g (c + 3) j ∧ g' (b + 4) j = g (c + 4) j) ∧ o_fr (fun a => b + 1 ≤ a ∧ a ≤ b + 4) g g')) 10 [(0, .ref (b + 1)), (1, .ref (c + 1)), (2, .int (o_I ((i : Nat) : Int)))] [] o_N (o_mem g1) 0 0) 6 (fun i hi ih g1 ⟨h1, h2, f1⟩ => by
    refine o_iload_n dX9_copyFrom_10 rfl ?_
    refine o_bipush dX9_copyFrom_11 (by decide) ?_
    refine o_icmp_ge (tgt := 58) dX9_copyFrom_13 (by decide) ⟨by omega, by omega⟩ ⟨by omega, by omega⟩ (fun c_13 => ?_) (fun c_13 => ?_)
    · skip
      refine o_ret0 dX9_copyFrom_58 trivial ?_
      exact o_mt0 ⟨h1, fun j hj => h2 j (by omega), f1⟩
    · skip
      refine o_aload_n dX9_copyFrom_16 rfl ?_
      refine o_gf dX9_copyFrom_17 fl_X9_9 (hB.F1 _ _) (by have := hB.hn; show b + 1 < 192; omega) rfl ?_
      refine o_iload_n dX9_copyFrom_20 rfl ?_
      refine o_aload_n dX9_copyFrom_21 rfl ?_
      refine o_gf dX9_copyFrom_22 fl_X9_9 (hC.F1 _ _) (by have := hC.hn; show c + 1 < 192; omega) rfl ?_
      refine o_iload_n dX9_copyFrom_25 rfl ?_
      refine o_ialdn (j := i) dX9_copyFrom_26 (by have := hC.hn; show c + 2 < 192; omega) (hC.F2 _ _) (by decide) rfl (by omega) ?_
      refine o_iaEn (j := i) dX9_copyFrom_27 (hB.F2 _ _) (by have := hB.hn; show b + 2 < 192; omega) (by decide) rfl (by omega) (fun f' => (hB.F2 f' _).symm) (by have := hB.hn; omega) (fun g_27 e_27 => ?_)
      refine o_aload_n dX9_copyFrom_28 rfl ?_
      refine o_gf dX9_copyFrom_29 fl_X9_15 (hB.F1 _ _) (by have := hB.hn; show b + 1 < 192; omega) rfl ?_
      refine o_iload_n dX9_copyFrom_32 rfl ?_
      refine o_aload_n dX9_copyFrom_33 rfl ?_
      refine o_gf dX9_copyFrom_34 fl_X9_15 (hC.F1 _ _) (by have := hC.hn; show c + 1 < 192; omega) rfl ?_
      refine o_iload_n dX9_copyFrom_37 rfl ?_
      refine o_ialdn (j := i) dX9_copyFrom_38 (by have := hC.hn; show c + 3 < 192; omega) (hC.F3 _ _) (by decide) rfl (by omega) ?_
      refine o_iaEn (j := i) dX9_copyFrom_39 (hB.F3 _ _) (by have := hB.hn; show b + 3 < 192; omega) (by decide) rfl (by omega) (fun f' => (hB.F3 f' _).symm) (by have := hB.hn; omega) (fun g_39 e_39 => ?_)
      refine o_aload_n dX9_copyFrom_40 rfl ?_
      refine o_gf dX9_copyFrom_41 fl_X9_18 (hB.F1 _ _) (by have := hB.hn; show b + 1 < 192; omega) rfl ?_
      refine o_iload_n dX9_copyFrom_44 rfl ?_
      refine o_aload_n dX9_copyFrom_45 rfl ?_
      refine o_gf dX9_copyFrom_46 fl_X9_18 (hC.F1 _ _) (by have := hC.hn; show c + 1 < 192; omega) rfl ?_
      refine o_iload_n dX9_copyFrom_49 rfl ?_
      refine o_ialdn (j := i) dX9_copyFrom_50 (by have := hC.hn; show c + 4 < 192; omega) (hC.F4 _ _) (by decide) rfl (by omega) ?_
      refine o_iaEn (j := i) dX9_copyFrom_51 (hB.F4 _ _) (by have := hB.hn; show b + 4 < 192; omega) (by decide) rfl (by omega) (fun f' => (hB.F4 f' _).symm) (by have := hB.hn; omega) (fun g_51 e_51 => ?_)
      refine o_iinc dX9_copyFrom_52 rfl (by decide) ?_
      refine o_goto (tgt := 10) dX9_copyFrom_55 (by decide) ?_
      refine o_loc [(0, .ref (b + 1)), (1, .ref (c + 1)), (2, .int (o_I (((i + 1) : Nat) : Int)))] rfl (ih (by omega) g_51 ⟨?_, fun j hj => ?_, ?_⟩)
      · rw [e_51, o_e_n (by omega), e_39, o_e_n (by omega), e_27, o_e_n (by omega)]
        exact h1
      · by_cases q : j = i
        · subst q
          refine ⟨?_, ?_, ?_⟩
          · rw [e_51, o_e_n (by omega), e_39, o_e_n (by omega), e_27, o_e_s, f1 (c + 2) (by omega)]
          · rw [e_51, o_e_n (by omega), e_39, o_e_s, e_27, o_e_n (by omega), f1 (c + 3) (by omega)]
          · rw [e_51, o_e_s, e_39, o_e_n (by omega), e_27, o_e_n (by omega), f1 (c + 4) (by omega)]
        · have t := h2 j (by omega)
          refine ⟨?_, ?_, ?_⟩
          · rw [e_51, o_e_n (by omega), e_39, o_e_n (by omega), e_27, o_e_k q]
            exact t.1
          · rw [e_51, o_e_n (by omega), e_39, o_e_k q, e_27, o_e_n (by omega)]
            exact t.2.1
          · rw [e_51, o_e_k q, e_39, o_e_n (by omega), e_27, o_e_n (by omega)]
            exact t.2.2
      · intro a ha
        rw [e_51, o_e_n (fun q => ha (by omega)), e_39, o_e_n (fun q => ha (by omega)), e_27, o_e_n (fun q => ha (by omega))]
        exact f1 a ha)
  refine o_aload_n dX9_copyFrom_0 rfl ?_
  refine o_aload_n dX9_copyFrom_1 rfl ?_
  refine o_gf dX9_copyFrom_2 fl_X9_21 (hC.F1 _ _) (by have := hC.hn; show c + 1 < 192; omega) rfl ?_
  refine o_pmE dX9_copyFrom_5 fp_X9_21 (hB.F1 _ _) (by have := hB.hn; show b + 1 < 192; omega) (Nat.le_of_ble_eq_true rfl) rfl rfl (fun z => by rw [hB.F1]; rfl) (by have := hB.hn; omega) (fun g_5 e_5 => ?_)
  refine o_iconst dX9_copyFrom_8 ?_
  refine o_istore_n dX9_copyFrom_9 (by decide) ?_
  exact o_loc _ rfl (key 0 (Nat.zero_le _) g_5 ⟨by rw [e_5, o_e_s], fun j hj => absurd hj (Nat.not_lt_zero j), fun a ha => by rw [e_5, o_e_n (fun q => ha (by omega))]⟩)
set_option maxRecDepth 100000 in
set_option maxHeartbeats 4000000 in
/-- copyFrom(lamps) -/
theorem ct_X7_copyFrom {l : Launch} (hl : l.stackTraces = false) (d : Nat) (g : Nat → Nat → Int) (b c : Nat) (hB : o_SB b) (hC : o_SB c) (hbc : b + 14 ≤ c ∨ c + 14 ≤ b) : o_Ct l yX7_copyFrom wX7_copyFrom (d + 1) o_no [.ref (b + 5), .ref (c + 5)] o_N (o_mem g) 0 0 (o_mt (none) (fun g' => g' (b + 5) 0 = g (c + 5) 0 ∧ (∀ j : Nat, j < 8 → g' (b + 6) j = g (c + 6) j ∧ g' (b + 7) j = g (c + 7) j ∧ g' (b + 8) j = g (c + 8) j ∧ g' (b + 9) j = g (c + 9) j ∧ (g (c + 10) j = 0 ∨ g (c + 10) j = 1 → g' (b + 10) j = g (c + 10) j)) ∧ o_fr (fun a => b + 5 ≤ a ∧ a ≤ b + 10) g g')) := by
  refine o_Ct.ofV hl mX7_copyFrom (by decide +kernel) rfl rfl rfl (Nat.le_of_ble_eq_true rfl) ?_
  have hn1 := hB.hn
  have hn2 := hC.hn
  have key := o_lp (fun i => ∀ g1, (g1 (b + 5) 0 = g (c + 5) 0 ∧ (∀ j : Nat, j < i → g1 (b + 6) j = g (c + 6) j ∧ g1 (b + 7) j = g (c + 7) j ∧ g1 (b + 8) j = g (c + 8) j ∧ g1 (b + 9) j = g (c + 9) j ∧ (g (c + 10) j = 0 ∨ g (c + 10) j = 1 → g1 (b + 10) j = g (c + 10) j)) ∧ o_fr (fun a => b + 5 ≤ a ∧ a ≤ b + 10) g g1) → o_V l mX7_copyFrom (d + 1) o_no (o_mt (none) (fun g' => g' (b + 5) 0 = g (c + 5) 0 ∧ (∀ j : Nat, j < 8 → g' (b + 6) j = g (c + 6) j ∧ g' (b + 7) j = g (c + 7) j ∧ g' (b + 8) j = g (c + 8) j ∧ g' (b + 9) j = g (c + 9) j ∧ (g (c + 10) j = 0 ∨ g (c + 10) j = 1 → g' (b + 10) j = g (c + 10) j)) ∧ o_fr (fun a => b + 5 ≤ a ∧ a ≤ b + 10) g g')) 10 [(0, .ref (b + 5)), (1, .ref (c + 5)), (2, .int (o_I ((i : Nat) : Int)))] [] o_N (o_mem g1) 0 0) 8 (fun i hi ih g1 ⟨h1, h2, f1⟩ => by
    refine o_iload_n dX7_copyFrom_10 rfl ?_
    refine o_bipush dX7_copyFrom_11 (by decide) ?_
    refine o_icmp_ge (tgt := 82) dX7_copyFrom_13 (by decide) ⟨by omega, by omega⟩ ⟨by omega, by omega⟩ (fun c_13 => ?_) (fun c_13 => ?_)
    · skip
      refine o_ret0 dX7_copyFrom_82 trivial ?_
      exact o_mt0 ⟨h1, fun j hj => h2 j (by omega), f1⟩
    · skip
      refine o_aload_n dX7_copyFrom_16 rfl ?_
      refine o_gf dX7_copyFrom_17 fl_X7_9 (hB.F5 _ _) (by have := hB.hn; show b + 5 < 192; omega) rfl ?_
      refine o_iload_n dX7_copyFrom_20 rfl ?_
      refine o_aload_n dX7_copyFrom_21 rfl ?_
      refine o_gf dX7_copyFrom_22 fl_X7_9 (hC.F5 _ _) (by have := hC.hn; show c + 5 < 192; omega) rfl ?_
      refine o_iload_n dX7_copyFrom_25 rfl ?_
      refine o_ialdn (j := i) dX7_copyFrom_26 (by have := hC.hn; show c + 6 < 192; omega) (hC.F6 _ _) (by decide) rfl (by omega) ?_
      refine o_iaEn (j := i) dX7_copyFrom_27 (hB.F6 _ _) (by have := hB.hn; show b + 6 < 192; omega) (by decide) rfl (by omega) (fun f' => (hB.F6 f' _).symm) (by have := hB.hn; omega) (fun g_27 e_27 => ?_)
      refine o_aload_n dX7_copyFrom_28 rfl ?_
      refine o_gf dX7_copyFrom_29 fl_X7_15 (hB.F5 _ _) (by have := hB.hn; show b + 5 < 192; omega) rfl ?_
      refine o_iload_n dX7_copyFrom_32 rfl ?_
      refine o_aload_n dX7_copyFrom_33 rfl ?_
      refine o_gf dX7_copyFrom_34 fl_X7_15 (hC.F5 _ _) (by have := hC.hn; show c + 5 < 192; omega) rfl ?_
      refine o_iload_n dX7_copyFrom_37 rfl ?_
      refine o_ialdn (j := i) dX7_copyFrom_38 (by have := hC.hn; show c + 7 < 192; omega) (hC.F7 _ _) (by decide) rfl (by omega) ?_
      refine o_iaEn (j := i) dX7_copyFrom_39 (hB.F7 _ _) (by have := hB.hn; show b + 7 < 192; omega) (by decide) rfl (by omega) (fun f' => (hB.F7 f' _).symm) (by have := hB.hn; omega) (fun g_39 e_39 => ?_)
      refine o_aload_n dX7_copyFrom_40 rfl ?_
      refine o_gf dX7_copyFrom_41 fl_X7_18 (hB.F5 _ _) (by have := hB.hn; show b + 5 < 192; omega) rfl ?_
      refine o_iload_n dX7_copyFrom_44 rfl ?_
      refine o_aload_n dX7_copyFrom_45 rfl ?_
      refine o_gf dX7_copyFrom_46 fl_X7_18 (hC.F5 _ _) (by have := hC.hn; show c + 5 < 192; omega) rfl ?_
      refine o_iload_n dX7_copyFrom_49 rfl ?_
      refine o_ialdn (j := i) dX7_copyFrom_50 (by have := hC.hn; show c + 8 < 192; omega) (hC.F8 _ _) (by decide) rfl (by omega) ?_
      refine o_iaEn (j := i) dX7_copyFrom_51 (hB.F8 _ _) (by have := hB.hn; show b + 8 < 192; omega) (by decide) rfl (by omega) (fun f' => (hB.F8 f' _).symm) (by have := hB.hn; omega) (fun g_51 e_51 => ?_)
      refine o_aload_n dX7_copyFrom_52 rfl ?_
      refine o_gf dX7_copyFrom_53 fl_X7_21 (hB.F5 _ _) (by have := hB.hn; show b + 5 < 192; omega) rfl ?_
      refine o_iload_n dX7_copyFrom_56 rfl ?_
      refine o_aload_n dX7_copyFrom_57 rfl ?_
      refine o_gf dX7_copyFrom_58 fl_X7_21 (hC.F5 _ _) (by have := hC.hn; show c + 5 < 192; omega) rfl ?_
      refine o_iload_n dX7_copyFrom_61 rfl ?_
      refine o_ialdn (j := i) dX7_copyFrom_62 (by have := hC.hn; show c + 9 < 192; omega) (hC.F9 _ _) (by decide) rfl (by omega) ?_
      refine o_iaEn (j := i) dX7_copyFrom_63 (hB.F9 _ _) (by have := hB.hn; show b + 9 < 192; omega) (by decide) rfl (by omega) (fun f' => (hB.F9 f' _).symm) (by have := hB.hn; omega) (fun g_63 e_63 => ?_)
      refine o_aload_n dX7_copyFrom_64 rfl ?_
      refine o_gf dX7_copyFrom_65 fl_X7_24 (hB.F5 _ _) (by have := hB.hn; show b + 5 < 192; omega) rfl ?_
      refine o_iload_n dX7_copyFrom_68 rfl ?_
      refine o_aload_n dX7_copyFrom_69 rfl ?_
      refine o_gf dX7_copyFrom_70 fl_X7_24 (hC.F5 _ _) (by have := hC.hn; show c + 5 < 192; omega) rfl ?_
      refine o_iload_n dX7_copyFrom_73 rfl ?_
      refine o_zaldn (j := i) dX7_copyFrom_74 (by have := hC.hn; show c + 10 < 192; omega) (hC.F10 _ _) (by decide) rfl (by omega) ?_
      refine o_zaW (j := i) dX7_copyFrom_75 (hB.F10 _ _) (by have := hB.hn; show b + 10 < 192; omega) (by decide) rfl (by omega) (fun f' => (hB.F10 f' _).symm) (by have := hB.hn; omega) (fun w_75 g_75 z_75 e_75 => ?_)
      refine o_iinc dX7_copyFrom_76 rfl (by decide) ?_
      refine o_goto (tgt := 10) dX7_copyFrom_79 (by decide) ?_
      refine o_loc [(0, .ref (b + 5)), (1, .ref (c + 5)), (2, .int (o_I (((i + 1) : Nat) : Int)))] rfl (ih (by omega) g_75 ⟨?_, fun j hj => ?_, ?_⟩)
      · rw [e_75, o_e_n (by omega), e_63, o_e_n (by omega), e_51, o_e_n (by omega), e_39, o_e_n (by omega), e_27, o_e_n (by omega)]
        exact h1
      · by_cases q : j = i
        · subst q
          refine ⟨?_, ?_, ?_, ?_, ?_⟩
          · rw [e_75, o_e_n (by omega), e_63, o_e_n (by omega), e_51, o_e_n (by omega), e_39, o_e_n (by omega), e_27, o_e_s, f1 (c + 6) (by omega)]
          · rw [e_75, o_e_n (by omega), e_63, o_e_n (by omega), e_51, o_e_n (by omega), e_39, o_e_s, e_27, o_e_n (by omega), f1 (c + 7) (by omega)]
          · rw [e_75, o_e_n (by omega), e_63, o_e_n (by omega), e_51, o_e_s, e_39, o_e_n (by omega), e_27, o_e_n (by omega), f1 (c + 8) (by omega)]
          · rw [e_75, o_e_n (by omega), e_63, o_e_s, e_51, o_e_n (by omega), e_39, o_e_n (by omega), e_27, o_e_n (by omega), f1 (c + 9) (by omega)]
          · intro hq
            have v_75 : g_63 (c + 10) j = g (c + 10) j := by rw [e_63, o_e_n (by omega), e_51, o_e_n (by omega), e_39, o_e_n (by omega), e_27, o_e_n (by omega), f1 (c + 10) (by omega)]
            rw [e_75, o_e_s, z_75 (by rw [v_75]; exact hq)]
            exact v_75
        · have t := h2 j (by omega)
          refine ⟨?_, ?_, ?_, ?_, ?_⟩
          · rw [e_75, o_e_n (by omega), e_63, o_e_n (by omega), e_51, o_e_n (by omega), e_39, o_e_n (by omega), e_27, o_e_k q]
            exact t.1
          · rw [e_75, o_e_n (by omega), e_63, o_e_n (by omega), e_51, o_e_n (by omega), e_39, o_e_k q, e_27, o_e_n (by omega)]
            exact t.2.1
          · rw [e_75, o_e_n (by omega), e_63, o_e_n (by omega), e_51, o_e_k q, e_39, o_e_n (by omega), e_27, o_e_n (by omega)]
            exact t.2.2.1
          · rw [e_75, o_e_n (by omega), e_63, o_e_k q, e_51, o_e_n (by omega), e_39, o_e_n (by omega), e_27, o_e_n (by omega)]
            exact t.2.2.2.1
          · intro hq
            rw [e_75, o_e_k q, e_63, o_e_n (by omega), e_51, o_e_n (by omega), e_39, o_e_n (by omega), e_27, o_e_n (by omega)]
            exact t.2.2.2.2 hq
      · intro a ha
        rw [e_75, o_e_n (fun q => ha (by omega)), e_63, o_e_n (fun q => ha (by omega)), e_51, o_e_n (fun q => ha (by omega)), e_39, o_e_n (fun q => ha (by omega)), e_27, o_e_n (fun q => ha (by omega))]
        exact f1 a ha)
  refine o_aload_n dX7_copyFrom_0 rfl ?_
  refine o_aload_n dX7_copyFrom_1 rfl ?_
  refine o_gf dX7_copyFrom_2 fl_X7_28 (hC.F5 _ _) (by have := hC.hn; show c + 5 < 192; omega) rfl ?_
  refine o_pmE dX7_copyFrom_5 fp_X7_28 (hB.F5 _ _) (by have := hB.hn; show b + 5 < 192; omega) (Nat.le_of_ble_eq_true rfl) rfl rfl (fun z => by rw [hB.F5]; rfl) (by have := hB.hn; omega) (fun g_5 e_5 => ?_)
  refine o_iconst dX7_copyFrom_8 ?_
  refine o_istore_n dX7_copyFrom_9 (by decide) ?_
  exact o_loc _ rfl (key 0 (Nat.zero_le _) g_5 ⟨by rw [e_5, o_e_s], fun j hj => absurd hj (Nat.not_lt_zero j), fun a ha => by rw [e_5, o_e_n (fun q => ha (by omega))]⟩)
set_option maxRecDepth 100000 in
set_option maxHeartbeats 4000000 in
/-- copyFrom(requests) -/
theorem ct_X8_copyFrom {l : Launch} (hl : l.stackTraces = false) (d : Nat) (g : Nat → Nat → Int) (b c : Nat) (hB : o_SB b) (hC : o_SB c) (hbc : b + 14 ≤ c ∨ c + 14 ≤ b) : o_Ct l yX8_copyFrom wX8_copyFrom (d + 1) o_no [.ref (b + 11), .ref (c + 11)] o_N (o_mem g) 0 0 (o_mt (none) (fun g' => g' (b + 11) 0 = g (c + 11) 0 ∧ (∀ j : Nat, j < 8 → g' (b + 12) j = g (c + 12) j ∧ g' (b + 13) j = g (c + 13) j) ∧ o_fr (fun a => b + 11 ≤ a ∧ a ≤ b + 13) g g')) := by
  refine o_Ct.ofV hl mX8_copyFrom (by decide +kernel) rfl rfl rfl (Nat.le_of_ble_eq_true rfl) ?_
  have hn1 := hB.hn
  have hn2 := hC.hn
  have key := o_lp (fun i => ∀ g1, (g1 (b + 11) 0 = g (c + 11) 0 ∧ (∀ j : Nat, j < i → g1 (b + 12) j = g (c + 12) j ∧ g1 (b + 13) j = g (c + 13) j) ∧ o_fr (fun a => b + 11 ≤ a ∧ a ≤ b + 13) g g1) → o_V l mX8_copyFrom (d + 1) o_no (o_mt (none) (fun g' => g' (b + 11) 0 = g (c + 11) 0 ∧ (∀ j : Nat, j < 8 → g' (b + 12) j = g (c + 12) j ∧ g' (b + 13) j = g (c + 13) j) ∧ o_fr (fun a => b + 11 ≤ a ∧ a ≤ b + 13) g g')) 10 [(0, .ref (b + 11)), (1, .ref (c + 11)), (2, .int (o_I ((i : Nat) : Int)))] [] o_N (o_mem g1) 0 0) 8 (fun i hi ih g1 ⟨h1, h2, f1⟩ => by
    refine o_iload_n dX8_copyFrom_10 rfl ?_
    refine o_bipush dX8_copyFrom_11 (by decide) ?_
    refine o_icmp_ge (tgt := 46) dX8_copyFrom_13 (by decide) ⟨by omega, by omega⟩ ⟨by omega, by omega⟩ (fun c_13 => ?_) (fun c_13 => ?_)
    · skip
      refine o_ret0 dX8_copyFrom_46 trivial ?_
      exact o_mt0 ⟨h1, fun j hj => h2 j (by omega), f1⟩
    · skip
      refine o_aload_n dX8_copyFrom_16 rfl ?_
      refine o_gf dX8_copyFrom_17 fl_X8_9 (hB.F11 _ _) (by have := hB.hn; show b + 11 < 192; omega) rfl ?_
      refine o_iload_n dX8_copyFrom_20 rfl ?_
      refine o_aload_n dX8_copyFrom_21 rfl ?_
      refine o_gf dX8_copyFrom_22 fl_X8_9 (hC.F11 _ _) (by have := hC.hn; show c + 11 < 192; omega) rfl ?_
      refine o_iload_n dX8_copyFrom_25 rfl ?_
      refine o_ialdn (j := i) dX8_copyFrom_26 (by have := hC.hn; show c + 12 < 192; omega) (hC.F12 _ _) (by decide) rfl (by omega) ?_
      refine o_iaEn (j := i) dX8_copyFrom_27 (hB.F12 _ _) (by have := hB.hn; show b + 12 < 192; omega) (by decide) rfl (by omega) (fun f' => (hB.F12 f' _).symm) (by have := hB.hn; omega) (fun g_27 e_27 => ?_)
      refine o_aload_n dX8_copyFrom_28 rfl ?_
      refine o_gf dX8_copyFrom_29 fl_X8_15 (hB.F11 _ _) (by have := hB.hn; show b + 11 < 192; omega) rfl ?_
      refine o_iload_n dX8_copyFrom_32 rfl ?_
      refine o_aload_n dX8_copyFrom_33 rfl ?_
      refine o_gf dX8_copyFrom_34 fl_X8_15 (hC.F11 _ _) (by have := hC.hn; show c + 11 < 192; omega) rfl ?_
      refine o_iload_n dX8_copyFrom_37 rfl ?_
      refine o_ialdn (j := i) dX8_copyFrom_38 (by have := hC.hn; show c + 13 < 192; omega) (hC.F13 _ _) (by decide) rfl (by omega) ?_
      refine o_iaEn (j := i) dX8_copyFrom_39 (hB.F13 _ _) (by have := hB.hn; show b + 13 < 192; omega) (by decide) rfl (by omega) (fun f' => (hB.F13 f' _).symm) (by have := hB.hn; omega) (fun g_39 e_39 => ?_)
      refine o_iinc dX8_copyFrom_40 rfl (by decide) ?_
      refine o_goto (tgt := 10) dX8_copyFrom_43 (by decide) ?_
      refine o_loc [(0, .ref (b + 11)), (1, .ref (c + 11)), (2, .int (o_I (((i + 1) : Nat) : Int)))] rfl (ih (by omega) g_39 ⟨?_, fun j hj => ?_, ?_⟩)
      · rw [e_39, o_e_n (by omega), e_27, o_e_n (by omega)]
        exact h1
      · by_cases q : j = i
        · subst q
          refine ⟨?_, ?_⟩
          · rw [e_39, o_e_n (by omega), e_27, o_e_s, f1 (c + 12) (by omega)]
          · rw [e_39, o_e_s, e_27, o_e_n (by omega), f1 (c + 13) (by omega)]
        · have t := h2 j (by omega)
          refine ⟨?_, ?_⟩
          · rw [e_39, o_e_n (by omega), e_27, o_e_k q]
            exact t.1
          · rw [e_39, o_e_k q, e_27, o_e_n (by omega)]
            exact t.2
      · intro a ha
        rw [e_39, o_e_n (fun q => ha (by omega)), e_27, o_e_n (fun q => ha (by omega))]
        exact f1 a ha)
  refine o_aload_n dX8_copyFrom_0 rfl ?_
  refine o_aload_n dX8_copyFrom_1 rfl ?_
  refine o_gf dX8_copyFrom_2 fl_X8_18 (hC.F11 _ _) (by have := hC.hn; show c + 11 < 192; omega) rfl ?_
  refine o_pmE dX8_copyFrom_5 fp_X8_18 (hB.F11 _ _) (by have := hB.hn; show b + 11 < 192; omega) (Nat.le_of_ble_eq_true rfl) rfl rfl (fun z => by rw [hB.F11]; rfl) (by have := hB.hn; omega) (fun g_5 e_5 => ?_)
  refine o_iconst dX8_copyFrom_8 ?_
  refine o_istore_n dX8_copyFrom_9 (by decide) ?_
  exact o_loc _ rfl (key 0 (Nat.zero_le _) g_5 ⟨by rw [e_5, o_e_s], fun j hj => absurd hj (Nat.not_lt_zero j), fun a ha => by rw [e_5, o_e_n (fun q => ha (by omega))]⟩)
theorem o_b01w {M : Nat → Nat → Int} (h : o_wl M) {i : Nat} (hi : (i : Int) < M 0 1) : M 8 i = 0 ∨ M 8 i = 1 := (h.2.2.2.2 i hi).2.2.2.2
set_option maxRecDepth 100000 in
set_option maxHeartbeats 4000000 in
/-- copyFrom(state) -/
theorem ct_X10_copyFrom {l : Launch} (hl : l.stackTraces = false) (d : Nat) (g : Nat → Nat → Int) (M : Nat → Nat → Int) (b c : Nat) (hB : o_SB b) (hC : o_SB c) (hbc : b + 14 ≤ c ∨ c + 14 ≤ b) (hst : o_stb g c M) (hws : o_ws M) (hwl : o_wl M) (hwq : o_wq M) : o_Ct l yX10_copyFrom wX10_copyFrom (d + 2) o_no [.ref b, .ref c] o_N (o_mem g) 0 0 (o_mt (none) (fun g' => o_stb g' b M ∧ o_fr (o_cs b) g g')) := by
  refine o_Ct.ofV hl mX10_copyFrom (by decide +kernel) rfl rfl rfl (Nat.le_of_ble_eq_true rfl) ?_
  have hn1 := hB.hn
  have hn2 := hC.hn
  obtain ⟨⟨h1, h2⟩, ⟨h3, h4⟩, ⟨h5, h6⟩, h7, h8, h9, h10⟩ := id hst
  have k1 := hws.2.1
  have k2 := hwl.2.1
  have k3 := hwq.2.1
  refine o_aload_n dX10_copyFrom_0 rfl ?_
  refine o_gf dX10_copyFrom_1 fl_X10_12 (hB.F0 _ _) (by have := hB.hn; show b < 192; omega) rfl ?_
  refine o_aload_n dX10_copyFrom_4 rfl ?_
  refine o_gf dX10_copyFrom_5 fl_X10_12 (hC.F0 _ _) (by have := hC.hn; show c < 192; omega) rfl ?_
  refine o_cVm _ (ct_X9_copyFrom hl d g b c hB hC hbc) dX10_copyFrom_8 ml_X10_148 yw_X9_copyFrom rfl (by decide) (by omega) (by have := hB.hn; show b + 1 < 192; omega) (hB.F1 _ _) rfl rfl (Nat.le_of_ble_eq_true rfl) (fun g_8 q_8 => ?_)
  obtain ⟨a1, a2, a3⟩ := q_8
  refine o_aload_n dX10_copyFrom_11 rfl ?_
  refine o_gf dX10_copyFrom_12 fl_X10_21 (hB.F0 _ _) (by have := hB.hn; show b < 192; omega) rfl ?_
  refine o_aload_n dX10_copyFrom_15 rfl ?_
  refine o_gf dX10_copyFrom_16 fl_X10_21 (hC.F0 _ _) (by have := hC.hn; show c < 192; omega) rfl ?_
  refine o_cVm _ (ct_X7_copyFrom hl d g_8 b c hB hC hbc) dX10_copyFrom_19 ml_X10_152 yw_X7_copyFrom rfl (by decide) (by omega) (by have := hB.hn; show b + 5 < 192; omega) (hB.F5 _ _) rfl rfl (Nat.le_of_ble_eq_true rfl) (fun g_19 q_19 => ?_)
  obtain ⟨b1, b2, b3⟩ := q_19
  refine o_aload_n dX10_copyFrom_22 rfl ?_
  refine o_gf dX10_copyFrom_23 fl_X10_28 (hB.F0 _ _) (by have := hB.hn; show b < 192; omega) rfl ?_
  refine o_aload_n dX10_copyFrom_26 rfl ?_
  refine o_gf dX10_copyFrom_27 fl_X10_28 (hC.F0 _ _) (by have := hC.hn; show c < 192; omega) rfl ?_
  refine o_cVm _ (ct_X8_copyFrom hl d g_19 b c hB hC hbc) dX10_copyFrom_30 ml_X10_155 yw_X8_copyFrom rfl (by decide) (by omega) (by have := hB.hn; show b + 11 < 192; omega) (hB.F11 _ _) rfl rfl (Nat.le_of_ble_eq_true rfl) (fun g_30 q_30 => ?_)
  obtain ⟨c1, c2, c3⟩ := q_30
  refine o_aload_n dX10_copyFrom_33 rfl ?_
  refine o_aload_n dX10_copyFrom_34 rfl ?_
  refine o_gf dX10_copyFrom_35 fl_X10_37 (hC.F0 _ _) (by have := hC.hn; show c < 192; omega) rfl ?_
  refine o_pmE dX10_copyFrom_38 fp_X10_37 (hB.F0 _ _) (by have := hB.hn; show b < 192; omega) (Nat.le_of_ble_eq_true rfl) rfl rfl (fun z => by rw [hB.F0]; rfl) (by have := hB.hn; omega) (fun g_38 e_38 => ?_)
  refine o_aload_n dX10_copyFrom_41 rfl ?_
  refine o_aload_n dX10_copyFrom_42 rfl ?_
  refine o_gf dX10_copyFrom_43 fl_X10_77 (hC.F0 _ _) (by have := hC.hn; show c < 192; omega) rfl ?_
  refine o_pmE dX10_copyFrom_46 fp_X10_77 (hB.F0 _ _) (by have := hB.hn; show b < 192; omega) (Nat.le_of_ble_eq_true rfl) rfl rfl (fun z => by rw [hB.F0]; rfl) (by have := hB.hn; omega) (fun g_46 e_46 => ?_)
  refine o_aload_n dX10_copyFrom_49 rfl ?_
  refine o_aload_n dX10_copyFrom_50 rfl ?_
  refine o_gf dX10_copyFrom_51 fl_X10_83 (hC.F0 _ _) (by have := hC.hn; show c < 192; omega) rfl ?_
  refine o_pmE dX10_copyFrom_54 fp_X10_83 (hB.F0 _ _) (by have := hB.hn; show b < 192; omega) (Nat.le_of_ble_eq_true rfl) rfl rfl (fun z => by rw [hB.F0]; rfl) (by have := hB.hn; omega) (fun g_54 e_54 => ?_)
  refine o_aload_n dX10_copyFrom_57 rfl ?_
  refine o_aload_n dX10_copyFrom_58 rfl ?_
  refine o_gf dX10_copyFrom_59 fl_X10_118 (hC.F0 _ _) (by have := hC.hn; show c < 192; omega) rfl ?_
  refine o_pmE dX10_copyFrom_62 fp_X10_118 (hB.F0 _ _) (by have := hB.hn; show b < 192; omega) (Nat.le_of_ble_eq_true rfl) rfl rfl (fun z => by rw [hB.F0]; rfl) (by have := hB.hn; omega) (fun g_62 e_62 => ?_)
  refine o_ret0 dX10_copyFrom_65 trivial ?_
  have w62 : ∀ a, a ≠ b → g_62 a = g_30 a := fun a ha => by rw [e_62, o_e_n ha, e_54, o_e_n ha, e_46, o_e_n ha, e_38, o_e_n ha]
  have w30 : g_30 c = g c := by rw [c3 c (by omega), b3 c (by omega), a3 c (by omega)]
  refine o_mt0 ⟨⟨⟨?_, fun i hi => ?_⟩, ⟨?_, fun i hi => ?_⟩, ⟨?_, fun i hi => ?_⟩, ?_, ?_, ?_, ?_⟩, fun a ha => ?_⟩
  · rw [w62 _ (by omega), c3 _ (by omega), b3 _ (by omega), a1]; exact h1
  · have t := h2 i hi
    have u := a2 i (by omega)
    rw [w62 (b + 1 + 1) (by omega), w62 (b + 1 + 2) (by omega), w62 (b + 1 + 3) (by omega), c3 (b + 1 + 1) (by omega), c3 (b + 1 + 2) (by omega), c3 (b + 1 + 3) (by omega), b3 (b + 1 + 1) (by omega), b3 (b + 1 + 2) (by omega), b3 (b + 1 + 3) (by omega)]
    exact ⟨u.1.trans t.1, u.2.1.trans t.2.1, u.2.2.trans t.2.2⟩
  · rw [w62 _ (by omega), c3 _ (by omega), b1, a3 _ (by omega)]; exact h3
  · have t := h4 i hi
    have u := b2 i (by omega)
    have z := o_b01w hwl hi
    rw [a3 (c + 6) (by omega), a3 (c + 7) (by omega), a3 (c + 8) (by omega), a3 (c + 9) (by omega), a3 (c + 10) (by omega)] at u
    rw [w62 (b + 5 + 1) (by omega), w62 (b + 5 + 2) (by omega), w62 (b + 5 + 3) (by omega), w62 (b + 5 + 4) (by omega), w62 (b + 5 + 5) (by omega), c3 (b + 5 + 1) (by omega), c3 (b + 5 + 2) (by omega), c3 (b + 5 + 3) (by omega), c3 (b + 5 + 4) (by omega), c3 (b + 5 + 5) (by omega)]
    have t5 : g (c + 10) i = M 8 i := t.2.2.2.2
    exact ⟨u.1.trans t.1, u.2.1.trans t.2.1, u.2.2.1.trans t.2.2.1, u.2.2.2.1.trans t.2.2.2.1, (u.2.2.2.2 (by rw [t5]; exact z)).trans t5⟩
  · rw [w62 _ (by omega), c1, b3 _ (by omega), a3 _ (by omega)]; exact h5
  · have t := h6 i hi
    have u := c2 i (by omega)
    rw [b3 (c + 12) (by omega), a3 (c + 12) (by omega), b3 (c + 13) (by omega), a3 (c + 13) (by omega)] at u
    rw [w62 (b + 11 + 1) (by omega), w62 (b + 11 + 2) (by omega)]
    exact ⟨u.1.trans t.1, u.2.trans t.2⟩
  · rw [e_62, o_e_k (by decide), e_54, o_e_k (by decide), e_46, o_e_k (by decide), e_38, o_e_s, w30]; exact h7
  · rw [e_62, o_e_k (by decide), e_54, o_e_k (by decide), e_46, o_e_s, e_38, o_e_n (by omega), w30]; exact h8
  · rw [e_62, o_e_k (by decide), e_54, o_e_s, e_46, o_e_n (by omega), e_38, o_e_n (by omega), w30]; exact h9
  · rw [e_62, o_e_s, e_54, o_e_n (by omega), e_46, o_e_n (by omega), e_38, o_e_n (by omega), w30]; exact h10
  · have ha' : ¬ (b ≤ a ∧ a < b + 14) := ha
    rw [w62 a (by omega), c3 a (by omega), b3 a (by omega), a3 a (by omega)]
