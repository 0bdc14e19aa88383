/-! small lemmas of the law's walks -/
theorem o_bcs (p : Prop) [Decidable p] : (o_b p = 1 ∧ p) ∨ (o_b p = 0 ∧ ¬ p) := by
  by_cases h : p
  · exact Or.inl ⟨o_b1 h, h⟩
  · exact Or.inr ⟨o_b0 h, h⟩
theorem les_cs (M : Nat → Nat → Int) (j : Nat) : (0 < M 5 j ∧ v_les M j = M 5 j - 1) ∨ (¬ 0 < M 5 j ∧ v_les M j = -13) := by
  unfold v_les
  by_cases h : 0 < M 5 j
  · exact Or.inl ⟨h, if_pos h⟩
  · exact Or.inr ⟨h, if_neg h⟩
theorem end_cs (M : Nat → Nat → Int) (j : Nat) : (0 < M 5 j ∧ v_end M j = M 6 j) ∨ (¬ 0 < M 5 j ∧ v_end M j = -13) := by
  unfold v_end
  by_cases h : 0 < M 5 j
  · exact Or.inl ⟨h, if_pos h⟩
  · exact Or.inr ⟨h, if_neg h⟩
theorem n_q0 {M : Nat → Nat → Int} {s : Nat} (h : ¬ 0 < d_all M) : (0 : Int) = d_q M s := (if_neg h).symm
theorem n_q1 {M : Nat → Nat → Int} {s : Nat} (h : 0 < d_all M) : M 0 2 * d_of M s / d_all M = d_q M s := (d_q_e h s).symm
theorem n_u0 {M : Nat → Nat → Int} (h : ¬ 0 < d_all M) (n : Nat) : d_u M n = 0 := by
  rw [d_u_sm, show d_u M 0 = 0 from if_neg h, show o_sm (fun s => d_q M s) n = o_sm (fun _ => 0) n from sm_eq (fun s _ => if_neg h), sm_zero]
  rfl
theorem n_fit0 {M : Nat → Nat → Int} {s : Nat} (h : ¬ 0 < d_all M) : d_sh M s = d_q M s := by
  rw [d_sh_e, n_u0 h, o_b0 (by have := o_sm_nn (f := fun o => o_b (d_ah M o s)) (fun _ => o_b_nn _) (M 0 0).toNat; show ¬ d_rk M s < 0; unfold d_rk; omega)]
  omega
theorem n_fit1 {M : Nat → Nat → Int} {s : Nat} (hw : o_wk M) (h : 0 < d_all M) (hr : M 0 2 * d_of M s % d_all M ≤ 0) : d_sh M s = d_q M s := by
  rw [d_sh_e, o_b0 (fun q => by have := n_fit hw h q; rw [d_r_e h] at this; omega)]
  omega
theorem n_fits (M : Nat → Nat → Int) (s : Nat) : d_q M s ≤ d_sh M s ∧ d_sh M s ≤ d_q M s + 1 := by
  rw [d_sh_e]
  rcases o_b01 (d_rk M s < d_u M (M 0 0).toNat) with q | q <;> omega
theorem n_od {M : Nat → Nat → Int} (hw : o_wk M) (s : Int) : 0 ≤ M 0 2 * d_of M s ∧ M 0 2 * d_of M s ≤ 12000 := by
  have h1 := d_of_R hw.2.1 s
  have := o_mulR hw.2.2.2.1.1 hw.2.2.2.1.2 h1.1 h1.2
  exact ⟨this.1, by have := this.2; omega⟩
theorem n_les {M : Nat → Nat → Int} (h : o_wl M) {j : Nat} (hj : (j : Int) < M 0 1) : -13 ≤ v_les M j ∧ v_les M j ≤ 6 := by
  have := (h.2.2.2.2 j hj).2.1
  rcases les_cs M j with q | q <;> omega
theorem n_end_R {M : Nat → Nat → Int} (h : o_wl M) {j : Nat} (hj : (j : Int) < M 0 1) : -13 ≤ v_end M j ∧ v_end M j ≤ M 0 3 + 100 := by
  have := (h.2.2.2.2 j hj).2.2.1
  have := h.2.2.1
  rcases end_cs M j with q | q <;> omega
theorem dc_self {x y : UInt64} (h : FP.dcmp x x = some .eq) (e : y = x) : Op.cmpValue (FP.dcmp x y) .l = o_I 0 := by
  subst e
  rw [h]
  rfl
theorem fp_all3 : ∀ a : Fin 9, ∀ b : Fin 8, FP.fcmp (FP.fdiv (FP.i2f (o_I ((a : Nat) : Int))) (FP.i2f (o_I (((b : Nat) + 1 : Nat) : Int)))) (FP.fdiv (FP.i2f (o_I ((a : Nat) : Int))) (FP.i2f (o_I (((b : Nat) + 1 : Nat) : Int)))) = some .eq := by decide +kernel
theorem f_shr_c {M : Nat → Nat → Int} (h : o_wk M) (h0 : 0 < M 0 1) : FP.fcmp (f_shr M) (f_shr M) = some .eq := by
  have hl := h.2.1
  have hb := o_sm_b (fun i => 0 < M 5 i) (M 0 1).toNat
  have h8 := hl.2.1
  have e1 : f_lsd M = o_sm (fun i => o_b (0 < M 5 i)) (M 0 1).toNat := rfl
  have t := fp_all3 ⟨(f_lsd M).toNat, by omega⟩ ⟨(M 0 1 - 1).toNat, by omega⟩
  simp only at t
  rw [show (((f_lsd M).toNat : Nat) : Int) = f_lsd M by omega, show (((M 0 1 - 1).toNat + 1 : Nat) : Int) = M 0 1 by omega] at t
  exact t
theorem fc_self {x y : UInt32} (h : FP.fcmp x x = some .eq) (e : y = x) : Op.cmpValue (FP.fcmp x y) .l = o_I 0 := by
  subst e
  rw [h]
  rfl
theorem lc_self (x : Int64) : lg_cmp x x = o_I 0 := by
  unfold lg_cmp
  have h : ¬ x > x := by rw [gt_iff_lt, Int64.lt_iff_toInt_lt]; omega
  rw [if_neg h, if_pos rfl]
  rfl
theorem n_hp0 {M : Nat → Nat → Int} {f h : Nat} {o : Int} (h0 : m_D M (M 0 3 + h) = 0) : n_hp M (f + 1) h o = -1 := if_pos h0
theorem n_hp1 {M : Nat → Nat → Int} {f h : Nat} {o : Int} (h0 : ¬ m_D M (M 0 3 + h) = 0) (h1 : o < m_D M (M 0 3 + h)) : n_hp M (f + 1) h o = h := (if_neg h0).trans (if_pos h1)
theorem n_hp2 {M : Nat → Nat → Int} {f h : Nat} {o : Int} (h0 : ¬ m_D M (M 0 3 + h) = 0) (h1 : ¬ o < m_D M (M 0 3 + h)) : n_hp M (f + 1) h o = n_hp M f (h + 1) (o - m_D M (M 0 3 + h)) := (if_neg h0).trans (if_neg h1)
theorem n_oc_R9 {M : Nat → Nat → Int} (h : M 0 1 ≤ 8) : ∀ k : Nat, 0 ≤ n_oc M k ∧ n_oc M k ≤ 8 * k
  | 0 => ⟨Int.le_refl 0, Int.le_refl 0⟩
  | k + 1 => by
    have a := n_oc_R9 h k
    have b := n_lc_R M (n_oo M k) ((k + 1 : Nat) : Int) (M 0 1).toNat
    have e : n_oc M (k + 1) = n_oc M k + n_lc M (n_oo M k) ((k + 1 : Nat) : Int) (M 0 1).toNat := rfl
    omega
