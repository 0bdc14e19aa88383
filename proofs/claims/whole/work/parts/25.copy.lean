/-- the State at b, in the shape -/
def o_SB (b : Nat) : Prop := (∀ (f : Nat → Int) (z : Int), o_FF (b) f z = .inr (1, [.ref (b + 1), .ref (b + 5), .ref (b + 11), .int (o_I (f 3)), .int (o_I (f 4)), .int (o_I (f 5)), .int (o_I (f 6))])) ∧ (∀ (f : Nat → Int) (z : Int), o_FF (b + 1) f z = .inr (2, [.int (o_I (f 0)), .ref (b + 2), .ref (b + 3), .ref (b + 4)])) ∧ (∀ (f : Nat → Int) (z : Int), o_FF (b + 2) f z = .inl (0, 6, .inl (fun j => o_I (f j)))) ∧ (∀ (f : Nat → Int) (z : Int), o_FF (b + 3) f z = .inl (0, 6, .inl (fun j => o_I (f j)))) ∧ (∀ (f : Nat → Int) (z : Int), o_FF (b + 4) f z = .inl (0, 6, .inl (fun j => o_I (f j)))) ∧ (∀ (f : Nat → Int) (z : Int), o_FF (b + 5) f z = .inr (3, [.int (o_I (f 0)), .ref (b + 6), .ref (b + 7), .ref (b + 8), .ref (b + 9), .ref (b + 10)])) ∧ (∀ (f : Nat → Int) (z : Int), o_FF (b + 6) f z = .inl (0, 8, .inl (fun j => o_I (f j)))) ∧ (∀ (f : Nat → Int) (z : Int), o_FF (b + 7) f z = .inl (0, 8, .inl (fun j => o_I (f j)))) ∧ (∀ (f : Nat → Int) (z : Int), o_FF (b + 8) f z = .inl (0, 8, .inl (fun j => o_I (f j)))) ∧ (∀ (f : Nat → Int) (z : Int), o_FF (b + 9) f z = .inl (0, 8, .inl (fun j => o_I (f j)))) ∧ (∀ (f : Nat → Int) (z : Int), o_FF (b + 10) f z = .inl (1, 8, .inl (fun j => o_I (f j)))) ∧ (∀ (f : Nat → Int) (z : Int), o_FF (b + 11) f z = .inr (4, [.int (o_I (f 0)), .ref (b + 12), .ref (b + 13)])) ∧ (∀ (f : Nat → Int) (z : Int), o_FF (b + 12) f z = .inl (0, 8, .inl (fun j => o_I (f j)))) ∧ (∀ (f : Nat → Int) (z : Int), o_FF (b + 13) f z = .inl (0, 8, .inl (fun j => o_I (f j)))) ∧ b + 14 ≤ 190
theorem o_SB.F0 {b : Nat} (h : o_SB b) : ∀ (f : Nat → Int) (z : Int), o_FF (b) f z = .inr (1, [.ref (b + 1), .ref (b + 5), .ref (b + 11), .int (o_I (f 3)), .int (o_I (f 4)), .int (o_I (f 5)), .int (o_I (f 6))]) := h.1
theorem o_SB.F1 {b : Nat} (h : o_SB b) : ∀ (f : Nat → Int) (z : Int), o_FF (b + 1) f z = .inr (2, [.int (o_I (f 0)), .ref (b + 2), .ref (b + 3), .ref (b + 4)]) := h.2.1
theorem o_SB.F2 {b : Nat} (h : o_SB b) : ∀ (f : Nat → Int) (z : Int), o_FF (b + 2) f z = .inl (0, 6, .inl (fun j => o_I (f j))) := h.2.2.1
theorem o_SB.F3 {b : Nat} (h : o_SB b) : ∀ (f : Nat → Int) (z : Int), o_FF (b + 3) f z = .inl (0, 6, .inl (fun j => o_I (f j))) := h.2.2.2.1
theorem o_SB.F4 {b : Nat} (h : o_SB b) : ∀ (f : Nat → Int) (z : Int), o_FF (b + 4) f z = .inl (0, 6, .inl (fun j => o_I (f j))) := h.2.2.2.2.1
theorem o_SB.F5 {b : Nat} (h : o_SB b) : ∀ (f : Nat → Int) (z : Int), o_FF (b + 5) f z = .inr (3, [.int (o_I (f 0)), .ref (b + 6), .ref (b + 7), .ref (b + 8), .ref (b + 9), .ref (b + 10)]) := h.2.2.2.2.2.1
theorem o_SB.F6 {b : Nat} (h : o_SB b) : ∀ (f : Nat → Int) (z : Int), o_FF (b + 6) f z = .inl (0, 8, .inl (fun j => o_I (f j))) := h.2.2.2.2.2.2.1
theorem o_SB.F7 {b : Nat} (h : o_SB b) : ∀ (f : Nat → Int) (z : Int), o_FF (b + 7) f z = .inl (0, 8, .inl (fun j => o_I (f j))) := h.2.2.2.2.2.2.2.1
theorem o_SB.F8 {b : Nat} (h : o_SB b) : ∀ (f : Nat → Int) (z : Int), o_FF (b + 8) f z = .inl (0, 8, .inl (fun j => o_I (f j))) := h.2.2.2.2.2.2.2.2.1
theorem o_SB.F9 {b : Nat} (h : o_SB b) : ∀ (f : Nat → Int) (z : Int), o_FF (b + 9) f z = .inl (0, 8, .inl (fun j => o_I (f j))) := h.2.2.2.2.2.2.2.2.2.1
theorem o_SB.F10 {b : Nat} (h : o_SB b) : ∀ (f : Nat → Int) (z : Int), o_FF (b + 10) f z = .inl (1, 8, .inl (fun j => o_I (f j))) := h.2.2.2.2.2.2.2.2.2.2.1
theorem o_SB.F11 {b : Nat} (h : o_SB b) : ∀ (f : Nat → Int) (z : Int), o_FF (b + 11) f z = .inr (4, [.int (o_I (f 0)), .ref (b + 12), .ref (b + 13)]) := h.2.2.2.2.2.2.2.2.2.2.2.1
theorem o_SB.F12 {b : Nat} (h : o_SB b) : ∀ (f : Nat → Int) (z : Int), o_FF (b + 12) f z = .inl (0, 8, .inl (fun j => o_I (f j))) := h.2.2.2.2.2.2.2.2.2.2.2.2.1
theorem o_SB.F13 {b : Nat} (h : o_SB b) : ∀ (f : Nat → Int) (z : Int), o_FF (b + 13) f z = .inl (0, 8, .inl (fun j => o_I (f j))) := h.2.2.2.2.2.2.2.2.2.2.2.2.2.1
theorem o_SB.hn {b : Nat} (h : o_SB b) : b + 14 ≤ 190 := h.2.2.2.2.2.2.2.2.2.2.2.2.2.2
theorem o_SB_1 : o_SB 1 := ⟨fun _ _ => rfl, fun _ _ => rfl, fun _ _ => rfl, fun _ _ => rfl, fun _ _ => rfl, fun _ _ => rfl, fun _ _ => rfl, fun _ _ => rfl, fun _ _ => rfl, fun _ _ => rfl, fun _ _ => rfl, fun _ _ => rfl, fun _ _ => rfl, fun _ _ => rfl, by decide⟩
theorem o_SB_15 : o_SB 15 := ⟨fun _ _ => rfl, fun _ _ => rfl, fun _ _ => rfl, fun _ _ => rfl, fun _ _ => rfl, fun _ _ => rfl, fun _ _ => rfl, fun _ _ => rfl, fun _ _ => rfl, fun _ _ => rfl, fun _ _ => rfl, fun _ _ => rfl, fun _ _ => rfl, fun _ _ => rfl, by decide⟩
theorem o_SB_29 : o_SB 29 := ⟨fun _ _ => rfl, fun _ _ => rfl, fun _ _ => rfl, fun _ _ => rfl, fun _ _ => rfl, fun _ _ => rfl, fun _ _ => rfl, fun _ _ => rfl, fun _ _ => rfl, fun _ _ => rfl, fun _ _ => rfl, fun _ _ => rfl, fun _ _ => rfl, fun _ _ => rfl, by decide⟩
theorem o_SB_45 : o_SB 45 := ⟨fun _ _ => rfl, fun _ _ => rfl, fun _ _ => rfl, fun _ _ => rfl, fun _ _ => rfl, fun _ _ => rfl, fun _ _ => rfl, fun _ _ => rfl, fun _ _ => rfl, fun _ _ => rfl, fun _ _ => rfl, fun _ _ => rfl, fun _ _ => rfl, fun _ _ => rfl, by decide⟩
theorem o_SB_59 : o_SB 59 := ⟨fun _ _ => rfl, fun _ _ => rfl, fun _ _ => rfl, fun _ _ => rfl, fun _ _ => rfl, fun _ _ => rfl, fun _ _ => rfl, fun _ _ => rfl, fun _ _ => rfl, fun _ _ => rfl, fun _ _ => rfl, fun _ _ => rfl, fun _ _ => rfl, fun _ _ => rfl, by decide⟩
theorem o_SB_73 : o_SB 73 := ⟨fun _ _ => rfl, fun _ _ => rfl, fun _ _ => rfl, fun _ _ => rfl, fun _ _ => rfl, fun _ _ => rfl, fun _ _ => rfl, fun _ _ => rfl, fun _ _ => rfl, fun _ _ => rfl, fun _ _ => rfl, fun _ _ => rfl, fun _ _ => rfl, fun _ _ => rfl, by decide⟩
theorem o_SB_87 : o_SB 87 := ⟨fun _ _ => rfl, fun _ _ => rfl, fun _ _ => rfl, fun _ _ => rfl, fun _ _ => rfl, fun _ _ => rfl, fun _ _ => rfl, fun _ _ => rfl, fun _ _ => rfl, fun _ _ => rfl, fun _ _ => rfl, fun _ _ => rfl, fun _ _ => rfl, fun _ _ => rfl, by decide⟩
theorem o_SB_101 : o_SB 101 := ⟨fun _ _ => rfl, fun _ _ => rfl, fun _ _ => rfl, fun _ _ => rfl, fun _ _ => rfl, fun _ _ => rfl, fun _ _ => rfl, fun _ _ => rfl, fun _ _ => rfl, fun _ _ => rfl, fun _ _ => rfl, fun _ _ => rfl, fun _ _ => rfl, fun _ _ => rfl, by decide⟩
theorem o_SB_115 : o_SB 115 := ⟨fun _ _ => rfl, fun _ _ => rfl, fun _ _ => rfl, fun _ _ => rfl, fun _ _ => rfl, fun _ _ => rfl, fun _ _ => rfl, fun _ _ => rfl, fun _ _ => rfl, fun _ _ => rfl, fun _ _ => rfl, fun _ _ => rfl, fun _ _ => rfl, fun _ _ => rfl, by decide⟩
theorem o_SB_129 : o_SB 129 := ⟨fun _ _ => rfl, fun _ _ => rfl, fun _ _ => rfl, fun _ _ => rfl, fun _ _ => rfl, fun _ _ => rfl, fun _ _ => rfl, fun _ _ => rfl, fun _ _ => rfl, fun _ _ => rfl, fun _ _ => rfl, fun _ _ => rfl, fun _ _ => rfl, fun _ _ => rfl, by decide⟩
theorem o_SB_143 : o_SB 143 := ⟨fun _ _ => rfl, fun _ _ => rfl, fun _ _ => rfl, fun _ _ => rfl, fun _ _ => rfl, fun _ _ => rfl, fun _ _ => rfl, fun _ _ => rfl, fun _ _ => rfl, fun _ _ => rfl, fun _ _ => rfl, fun _ _ => rfl, fun _ _ => rfl, fun _ _ => rfl, by decide⟩
theorem o_SBr {k : Nat} (h : k < 8) : o_SB (45 + 14 * k) := by
  rcases (show k = 0 ∨ k = 1 ∨ k = 2 ∨ k = 3 ∨ k = 4 ∨ k = 5 ∨ k = 6 ∨ k = 7 by omega) with rfl | rfl | rfl | rfl | rfl | rfl | rfl | rfl
  · exact o_SB_45
  · exact o_SB_59
  · exact o_SB_73
  · exact o_SB_87
  · exact o_SB_101
  · exact o_SB_115
  · exact o_SB_129
  · exact o_SB_143
def o_stb (g : Nat → Nat → Int) (b : Nat) (M : Nat → Nat → Int) : Prop := o_rs g (b + 1) M ∧ o_rl g (b + 5) M ∧ o_rq g (b + 11) M ∧ g b 3 = M 0 2 ∧ g b 4 = M 0 3 ∧ g b 5 = M 0 5 ∧ g b 6 = M 0 4
theorem o_stb1 {g M : Nat → Nat → Int} : o_stb g 1 M ↔ o_st g M := Iff.rfl
theorem o_stb_fr {g g' M : Nat → Nat → Int} {b : Nat} {S : Nat → Prop} (h : o_stb g b M) (hf : o_fr S g g') (hS : ∀ a, b ≤ a → a < b + 14 → ¬ S a) : o_stb g' b M := by
  obtain ⟨⟨h1, h2⟩, ⟨h3, h4⟩, ⟨h5, h6⟩, h7, h8, h9, h10⟩ := h
  have e : ∀ k, k < 14 → g' (b + k) = g (b + k) := fun k hk => hf _ (hS _ (by omega) (by omega))
  have e0 := e 0 (by decide)
  refine ⟨⟨by rw [e 1 (by decide)]; exact h1, fun i hi => ?_⟩, ⟨by rw [e 5 (by decide)]; exact h3, fun i hi => ?_⟩, ⟨by rw [e 11 (by decide)]; exact h5, fun i hi => ?_⟩, by rw [show g' b = g b from e0]; exact h7, by rw [show g' b = g b from e0]; exact h8, by rw [show g' b = g b from e0]; exact h9, by rw [show g' b = g b from e0]; exact h10⟩
  · have := h2 i hi
    rw [show g' (b + 1 + 1) = g (b + 1 + 1) from e 2 (by decide), show g' (b + 1 + 2) = g (b + 1 + 2) from e 3 (by decide), show g' (b + 1 + 3) = g (b + 1 + 3) from e 4 (by decide)]
    exact this
  · have := h4 i hi
    rw [show g' (b + 5 + 1) = g (b + 5 + 1) from e 6 (by decide), show g' (b + 5 + 2) = g (b + 5 + 2) from e 7 (by decide), show g' (b + 5 + 3) = g (b + 5 + 3) from e 8 (by decide), show g' (b + 5 + 4) = g (b + 5 + 4) from e 9 (by decide), show g' (b + 5 + 5) = g (b + 5 + 5) from e 10 (by decide)]
    exact this
  · have := h6 i hi
    rw [show g' (b + 11 + 1) = g (b + 11 + 1) from e 12 (by decide), show g' (b + 11 + 2) = g (b + 11 + 2) from e 13 (by decide)]
    exact this
set_option maxRecDepth 100000 in
set_option maxHeartbeats 4000000 in
/-- copyFrom(ships) -/
theorem ct_X9_copyFrom {l : Launch} (hl : l.stackTraces = false) (d : Nat) (g : Nat → Nat → Int) (b c : Nat) (hB : o_SB b) (hC : o_SB c) (hbc : b + 14 ≤ c ∨ c + 14 ≤ b) : o_Ct l yX9_copyFrom wX9_copyFrom (d + 1) o_no [.ref (b + 1), .ref (c + 1)] o_N (o_mem g) 0 0 (o_mt (none) (fun g' => g' (b + 1) 0 = g (c + 1) 0 ∧ (∀ j : Nat, j < 6 → g' (b + 2) j = g (c + 2) j ∧ g' (b + 3) j = g (c + 3) j ∧ g' (b + 4) j = g (c + 4) j) ∧ o_fr (fun a => b + 1 ≤ a ∧ a ≤ b + 4) g g')) := by
  refine o_Ct.ofV hl mX9_copyFrom (by decide +kernel) rfl rfl rfl (Nat.le_of_ble_eq_true rfl) ?_
  have hn1 := hB.hn
  have hn2 := hC.hn
  have key := o_lp (fun i => ∀ g1, (g1 (b + 1) 0 = g (c + 1) 0 ∧ (∀ j : Nat, j < i → g1 (b + 2) j = g (c + 2) j ∧ g1 (b + 3) j = g (c + 3) j ∧ g1 (b + 4) j = g (c + 4) j) ∧ o_fr (fun a => b + 1 ≤ a ∧ a ≤ b + 4) g g1) → o_V l mX9_copyFrom (d + 1) o_no (o_mt (none) (fun g' => g' (b + 1) 0 = g (c + 1) 0 ∧ (∀ j : Nat, j < 6 → g' (b + 2) j = g (c + 2) j ∧ g' (b + 3) j = g (c + 3) j ∧ g' (b + 4) j = g (c + 4) j) ∧ o_fr (fun a => b + 1 ≤ a ∧ a ≤ b + 4) g g')) 10 [(0, .ref (b + 1)), (1, .ref (c + 1)), (2, .int (o_I ((i : Nat) : Int)))] [] o_N (o_mem g1) 0 0) 6 (fun i hi ih g1 ⟨h1, h2, f1⟩ => by
    refine o_iload_n dX9_copyFrom_10 rfl ?_
    refine o_bipush dX9_copyFrom_11 (by decide) ?_
    refine o_icmp_ge (tgt := 58) dX9_copyFrom_13 (by decide) ⟨by omega, by omega⟩ ⟨by omega, by omega⟩ (fun c_13 => ?_) (fun c_13 => ?_)
    · skip
      refine o_ret0 dX9_copyFrom_58 trivial ?_
      exact o_mt0 ⟨h1, fun j hj => h2 j (by omega), f1⟩
    · skip
      refine o_aload_n dX9_copyFrom_16 rfl ?_
      refine o_gf dX9_copyFrom_17 fl_X9_9 (hB.F1 _ _) (by have := hB.hn; show b + 1 < 203; omega) rfl ?_
      refine o_iload_n dX9_copyFrom_20 rfl ?_
      refine o_aload_n dX9_copyFrom_21 rfl ?_
      refine o_gf dX9_copyFrom_22 fl_X9_9 (hC.F1 _ _) (by have := hC.hn; show c + 1 < 203; omega) rfl ?_
      refine o_iload_n dX9_copyFrom_25 rfl ?_
      refine o_ialdn (j := i) dX9_copyFrom_26 (by have := hC.hn; show c + 2 < 203; omega) (hC.F2 _ _) (by decide) rfl (by omega) ?_
      refine o_iaEn (j := i) dX9_copyFrom_27 (hB.F2 _ _) (by have := hB.hn; show b + 2 < 203; omega) (by decide) rfl (by omega) (fun f' => (hB.F2 f' _).symm) (by have := hB.hn; omega) (fun g_27 e_27 => ?_)
      refine o_aload_n dX9_copyFrom_28 rfl ?_
      refine o_gf dX9_copyFrom_29 fl_X9_15 (hB.F1 _ _) (by have := hB.hn; show b + 1 < 203; omega) rfl ?_
      refine o_iload_n dX9_copyFrom_32 rfl ?_
      refine o_aload_n dX9_copyFrom_33 rfl ?_
      refine o_gf dX9_copyFrom_34 fl_X9_15 (hC.F1 _ _) (by have := hC.hn; show c + 1 < 203; omega) rfl ?_
      refine o_iload_n dX9_copyFrom_37 rfl ?_
      refine o_ialdn (j := i) dX9_copyFrom_38 (by have := hC.hn; show c + 3 < 203; omega) (hC.F3 _ _) (by decide) rfl (by omega) ?_
      refine o_iaEn (j := i) dX9_copyFrom_39 (hB.F3 _ _) (by have := hB.hn; show b + 3 < 203; omega) (by decide) rfl (by omega) (fun f' => (hB.F3 f' _).symm) (by have := hB.hn; omega) (fun g_39 e_39 => ?_)
      refine o_aload_n dX9_copyFrom_40 rfl ?_
      refine o_gf dX9_copyFrom_41 fl_X9_18 (hB.F1 _ _) (by have := hB.hn; show b + 1 < 203; omega) rfl ?_
      refine o_iload_n dX9_copyFrom_44 rfl ?_
      refine o_aload_n dX9_copyFrom_45 rfl ?_
      refine o_gf dX9_copyFrom_46 fl_X9_18 (hC.F1 _ _) (by have := hC.hn; show c + 1 < 203; omega) rfl ?_
      refine o_iload_n dX9_copyFrom_49 rfl ?_
      refine o_ialdn (j := i) dX9_copyFrom_50 (by have := hC.hn; show c + 4 < 203; omega) (hC.F4 _ _) (by decide) rfl (by omega) ?_
      refine o_iaEn (j := i) dX9_copyFrom_51 (hB.F4 _ _) (by have := hB.hn; show b + 4 < 203; omega) (by decide) rfl (by omega) (fun f' => (hB.F4 f' _).symm) (by have := hB.hn; omega) (fun g_51 e_51 => ?_)
      refine o_iinc dX9_copyFrom_52 rfl (by decide) ?_
      refine o_goto (tgt := 10) dX9_copyFrom_55 (by decide) ?_
      refine o_loc [(0, .ref (b + 1)), (1, .ref (c + 1)), (2, .int (o_I (((i + 1) : Nat) : Int)))] rfl (ih (by omega) g_51 ⟨?_, fun j hj => ?_, ?_⟩)
      · rw [e_51, o_e_n (by omega), e_39, o_e_n (by omega), e_27, o_e_n (by omega)]
        exact h1
      · by_cases q : j = i
        · subst q
          refine ⟨?_, ?_, ?_⟩
          · rw [e_51, o_e_n (by omega), e_39, o_e_n (by omega), e_27, o_e_s, f1 (c + 2) (by omega)]
          · rw [e_51, o_e_n (by omega), e_39, o_e_s, e_27, o_e_n (by omega), f1 (c + 3) (by omega)]
          · rw [e_51, o_e_s, e_39, o_e_n (by omega), e_27, o_e_n (by omega), f1 (c + 4) (by omega)]
        · have t := h2 j (by omega)
          refine ⟨?_, ?_, ?_⟩
          · rw [e_51, o_e_n (by omega), e_39, o_e_n (by omega), e_27, o_e_k q]
            exact t.1
          · rw [e_51, o_e_n (by omega), e_39, o_e_k q, e_27, o_e_n (by omega)]
            exact t.2.1
          · rw [e_51, o_e_k q, e_39, o_e_n (by omega), e_27, o_e_n (by omega)]
            exact t.2.2
      · intro a ha
        rw [e_51, o_e_n (fun q => ha (by omega)), e_39, o_e_n (fun q => ha (by omega)), e_27, o_e_n (fun q => ha (by omega))]
        exact f1 a ha)
  refine o_aload_n dX9_copyFrom_0 rfl ?_
  refine o_aload_n dX9_copyFrom_1 rfl ?_
  refine o_gf dX9_copyFrom_2 fl_X9_21 (hC.F1 _ _) (by have := hC.hn; show c + 1 < 203; omega) rfl ?_
  refine o_pmE dX9_copyFrom_5 fp_X9_21 (hB.F1 _ _) (by have := hB.hn; show b + 1 < 203; omega) (Nat.le_of_ble_eq_true rfl) rfl rfl (fun z => by rw [hB.F1]; rfl) (by have := hB.hn; omega) (fun g_5 e_5 => ?_)
  refine o_iconst dX9_copyFrom_8 ?_
  refine o_istore_n dX9_copyFrom_9 (by decide) ?_
  exact o_loc _ rfl (key 0 (Nat.zero_le _) g_5 ⟨by rw [e_5, o_e_s], fun j hj => absurd hj (Nat.not_lt_zero j), fun a ha => by rw [e_5, o_e_n (fun q => ha (by omega))]⟩)
