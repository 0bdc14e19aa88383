/-! numbers: what the law's checks rest on -/
theorem n_sah {M : Nat → Nat → Int} {b i : Nat} (hi : (i : Int) < M 0 0) (h : o_rkS M b < o_rkS M i) : s_ah M b i := by
  by_cases q : b = i
  · subst q; omega
  · rcases (s_ord M).2.2 b i q with w | w
    · exact w
    · exfalso
      have := rk_lt (P := fun _ => True) (s_ord M) (n := (M 0 0).toNat) (i := i) (j := b) (by omega) trivial w
      rw [← s_rkP, ← s_rkP] at this
      omega
theorem n_lah {M : Nat → Nat → Int} {b i : Nat} (hi : (i : Int) < M 0 1) (h5 : 0 < M 5 i) (h : o_rkL M b < o_rkL M i) : l_ah M b i := by
  by_cases q : b = i
  · subst q; omega
  · rcases (l_ord M).2.2 b i q with w | w
    · exact w
    · exfalso
      have : o_rkL M i < o_rkL M b := rk_lt (P := fun i => 0 < M 5 i) (l_ord M) (n := (M 0 1).toNat) (i := i) (j := b) (by omega) h5 w
      omega
theorem n_sx {M : Nat → Nat → Int} {k : Nat} (hk : (k : Int) < M 0 0) : ∃ r : Nat, (r : Int) < M 0 0 ∧ o_rkS M r = (k : Int) := by
  obtain ⟨j, a, -, c⟩ := rk_ex (P := fun _ => True) (s_ord M) (n := (M 0 0).toNat) (r := (k : Int)) (by omega) (by rw [d_tr]; omega)
  exact ⟨j, by omega, by rw [s_rkP]; exact c⟩
theorem n_lx {M : Nat → Nat → Int} {k : Nat} (hk : (k : Int) < o_sm (fun i => o_b (0 < M 5 i)) (M 0 1).toNat) : ∃ r : Nat, (r : Int) < M 0 1 ∧ 0 < M 5 r ∧ o_rkL M r = (k : Int) := by
  obtain ⟨j, a, b, c⟩ := rk_ex (P := fun i => 0 < M 5 i) (R := l_ah M) (l_ord M) (n := (M 0 1).toNat) (r := (k : Int)) (by omega) hk
  exact ⟨j, by omega, b, c⟩
theorem d_sh_e (M : Nat → Nat → Int) (s : Nat) : d_sh M s = d_q M s + o_b (d_rk M s < d_u M (M 0 0).toNat) := rfl
theorem n_has {M : Nat → Nat → Int} {s : Nat} : d_q M s < d_sh M s ↔ d_rk M s < d_u M (M 0 0).toNat := by
  rw [d_sh_e]
  by_cases c : d_rk M s < d_u M (M 0 0).toNat
  · rw [o_b1 c]; constructor <;> intro _ <;> omega
  · rw [o_b0 c]; constructor <;> intro _ <;> omega
theorem n_left {M : Nat → Nat → Int} {a b : Nat} (hb : (b : Int) < M 0 0) (h1 : d_q M a < d_sh M a) (h2 : d_ah M b a) : d_q M b < d_sh M b := by
  have c := n_has.mp h1
  have := d_rk_lt hb h2
  exact n_has.mpr (by omega)
theorem d_r_e {M : Nat → Nat → Int} (h0 : 0 < d_all M) (s : Nat) : d_r M s = M 0 2 * d_of M s % d_all M := if_pos h0
theorem d_q_e {M : Nat → Nat → Int} (h0 : 0 < d_all M) (s : Nat) : d_q M s = M 0 2 * d_of M s / d_all M := if_pos h0
theorem n_su {M : Nat → Nat → Int} (h : o_wk M) (h0 : 0 < d_all M) : o_sm (fun s => d_r M s) (M 0 0).toNat = d_all M * d_u M (M 0 0).toNat := by
  have hu := d_u_sm M (M 0 0).toNat
  have hu0 : d_u M 0 = M 0 2 := if_pos h0
  have er : ∀ s : Nat, d_r M s = M 0 2 * d_of M s + (-(d_all M)) * d_q M s := by
    intro s
    rw [d_r_e h0, d_q_e h0, Int.emod_def, Int.neg_mul]
    omega
  have sr : o_sm (fun s => d_r M s) (M 0 0).toNat = M 0 2 * d_all M + (-(d_all M)) * o_sm (fun s => d_q M s) (M 0 0).toNat := by
    rw [show o_sm (fun s => d_r M s) (M 0 0).toNat = o_sm (fun s => M 0 2 * d_of M s + (-(d_all M)) * d_q M s) (M 0 0).toNat from sm_eq (fun s _ => er s), sm_add, sm_mul, sm_mul, d_of_sm h]
  rw [sr, hu, hu0, Int.mul_sub, Int.neg_mul, Int.mul_comm (M 0 2)]
  omega
theorem d_r_R0 {M : Nat → Nat → Int} (h0 : 0 < d_all M) (s : Nat) : 0 ≤ d_r M s ∧ d_r M s < d_all M := by
  rw [d_r_e h0]
  exact ⟨Int.emod_nonneg _ (by omega), Int.emod_lt_of_pos _ h0⟩
/-- who gets a unit that is left has a remainder -/
theorem n_fit {M : Nat → Nat → Int} (h : o_wk M) (h0 : 0 < d_all M) {s : Nat} (hk : d_rk M s < d_u M (M 0 0).toNat) : 0 < d_r M s := by
  by_cases c : 0 < d_r M s
  · exact c
  · exfalso
    have hs0 := (d_r_R0 h0 s).1
    have e1 : o_sm (fun o => o_b (0 < d_r M o)) (M 0 0).toNat ≤ d_rk M s := sm_le (fun o _ => o_b_mono (fun q => by
      show d_r M s < d_r M o ∨ _
      exact Or.inl (by omega)))
    have e2 : o_sm (fun o => d_r M o) (M 0 0).toNat ≤ o_sm (fun o => d_all M * o_b (0 < d_r M o)) (M 0 0).toNat := sm_le (fun o _ => by
      have := d_r_R0 h0 o
      by_cases q : 0 < d_r M o
      · rw [o_b1 q, Int.mul_one]; omega
      · rw [o_b0 q, Int.mul_zero]; omega)
    rw [n_su h h0, sm_mul] at e2
    have e3 := Int.le_of_mul_le_mul_left e2 h0
    omega
/-- the brightest by index are no more than the most -/
theorem n_bcx {M : Nat → Nat → Int} (hw : o_wl M) (ho : 0 ≤ M 0 2) (n : Nat) : (n : Int) ≤ M 0 1 → ∃ a b c : Int, (0 ≤ a ∧ a ≤ g_c M 1 n) ∧ (0 ≤ b ∧ b ≤ g_c M 2 n) ∧ (0 ≤ c ∧ c ≤ g_c M 3 n) ∧ a + b + c = n_bc M n ∧ n_bo M n = M 0 2 - (a + 2 * b + 3 * c) ∧ 0 ≤ n_bo M n := by
  induction n with
  | zero => exact fun _ => ⟨0, 0, 0, ⟨by decide, Int.le_refl _⟩, ⟨by decide, Int.le_refl _⟩, ⟨by decide, Int.le_refl _⟩, rfl, by show M 0 2 = _; omega, ho⟩
  | succ n ih =>
    intro hn
    obtain ⟨a, b, c, ha, hb, hc, e1, e2, e3⟩ := ih (by omega)
    have hv := (hw.2.2.2.2 n (by omega)).1
    have g1 : g_c M 1 (n + 1) = g_c M 1 n + o_b (0 < M 5 n ∧ M 4 n = 1) := rfl
    have g2 : g_c M 2 (n + 1) = g_c M 2 n + o_b (0 < M 5 n ∧ M 4 n = 2) := rfl
    have g3 : g_c M 3 (n + 1) = g_c M 3 n + o_b (0 < M 5 n ∧ M 4 n = 3) := rfl
    have k1 := o_b_nn (0 < M 5 n ∧ M 4 n = 1)
    have k2 := o_b_nn (0 < M 5 n ∧ M 4 n = 2)
    have k3 := o_b_nn (0 < M 5 n ∧ M 4 n = 3)
    by_cases q : 0 < M 5 n ∧ M 4 n ≤ n_bo M n
    · have f1 : n_bc M (n + 1) = n_bc M n + 1 := by show n_bc M n + o_b _ = _; rw [o_b1 q]
      have f2 : n_bo M (n + 1) = n_bo M n - M 4 n := if_pos q
      rcases (show M 4 n = 1 ∨ M 4 n = 2 ∨ M 4 n = 3 by omega) with w | w | w
      · have := o_b1 (show 0 < M 5 n ∧ M 4 n = 1 from ⟨q.1, w⟩)
        exact ⟨a + 1, b, c, by omega, by omega, by omega, by omega, by omega, by omega⟩
      · have := o_b1 (show 0 < M 5 n ∧ M 4 n = 2 from ⟨q.1, w⟩)
        exact ⟨a, b + 1, c, by omega, by omega, by omega, by omega, by omega, by omega⟩
      · have := o_b1 (show 0 < M 5 n ∧ M 4 n = 3 from ⟨q.1, w⟩)
        exact ⟨a, b, c + 1, by omega, by omega, by omega, by omega, by omega, by omega⟩
    · have f1 : n_bc M (n + 1) = n_bc M n := by show n_bc M n + o_b _ = _; rw [o_b0 q]; omega
      have f2 : n_bo M (n + 1) = n_bo M n := if_neg q
      exact ⟨a, b, c, by omega, by omega, by omega, by omega, by omega, by omega⟩
theorem n_bc_le {M : Nat → Nat → Int} (h : o_wk M) : n_bc M (M 0 1).toNat ≤ n_oc M 3 := by
  have ho := h.2.2.2.1
  have h1 := h.2.1.1
  have h2 := h.2.1.2.1
  obtain ⟨⟨p1, p2, p3, p4⟩, hA, hB⟩ := t_ch h.2.1 (M 0 1).toNat (by omega)
  obtain ⟨a, b, c, ha, hb, hc, e1, e2, e3⟩ := n_bcx h.2.1 ho.1 (M 0 1).toNat (by omega)
  have k := hB (a + 2 * b + 3 * c).toNat a b c ha.1 hb.1 hc.1 ha.2 hb.2 hc.2 (by omega)
  have t := t_max_ge (T := t_tb M (M 0 1).toNat) (n := min 25 (M 0 2 + 1).toNat) (s := (a + 2 * b + 3 * c).toNat) (by omega)
  rw [t_most h] at t
  omega
theorem n_bc_R (M : Nat → Nat → Int) (n : Nat) : 0 ≤ n_bc M n ∧ n_bc M n ≤ n := by
  induction n with
  | zero => exact ⟨Int.le_refl 0, Int.le_refl 0⟩
  | succ n ih =>
    have e : n_bc M (n + 1) = n_bc M n + o_b (0 < M 5 n ∧ M 4 n ≤ n_bo M n) := rfl
    rcases o_b01 (0 < M 5 n ∧ M 4 n ≤ n_bo M n) with q | q <;> omega
theorem n_lc_R (M : Nat → Nat → Int) (o v : Int) (n : Nat) : 0 ≤ n_lc M o v n ∧ n_lc M o v n ≤ n := by
  induction n with
  | zero => exact ⟨Int.le_refl 0, Int.le_refl 0⟩
  | succ n ih =>
    have e : n_lc M o v (n + 1) = n_lc M o v n + o_b (0 < M 5 n ∧ M 4 n = v ∧ v ≤ n_lo M o v n) := rfl
    rcases o_b01 (0 < M 5 n ∧ M 4 n = v ∧ v ≤ n_lo M o v n) with q | q <;> omega
/-- bright hours: a lamp that was bright was so at least one hour, and no more than all -/
def e_ok (M : Nat → Nat → Int) : Prop := ∀ i : Nat, (i : Int) < M 0 1 → M 8 i ≤ M 7 i ∧ M 7 i ≤ M 0 3 ∧ 0 ≤ M 7 i
/-- the same lamps, hours and bright hours -/
def e_sm (M M' : Nat → Nat → Int) : Prop := M' 0 1 = M 0 1 ∧ M' 0 3 = M 0 3 ∧ M' 7 = M 7 ∧ M' 8 = M 8
theorem e_ok.sm {M M' : Nat → Nat → Int} (h : e_ok M) (e : e_sm M M') : e_ok M' := by
  obtain ⟨a, b, c, d⟩ := e
  intro i hi
  rw [c, d, b]
  exact h i (by omega)
theorem e_sm.t {M M1 M2 : Nat → Nat → Int} (h1 : e_sm M M1) (h2 : e_sm M1 M2) : e_sm M M2 := ⟨h2.1.trans h1.1, h2.2.1.trans h1.2.1, h2.2.2.1.trans h1.2.2.1, h2.2.2.2.trans h1.2.2.2⟩
theorem e_sm.rf (M : Nat → Nat → Int) : e_sm M M := ⟨rfl, rfl, rfl, rfl⟩
theorem e_row {M : Nat → Nat → Int} {a b : Nat} {i : Nat} {z : Int} (h : b ≠ a) : o_e M a i z b = M b := by
  funext j
  unfold o_e
  rw [if_neg (fun q => h q.1)]
theorem e_at {M : Nat → Nat → Int} {a i b j : Nat} {z : Int} (h : ¬ (b = a ∧ j = i)) : o_e M a i z b j = M b j := by
  unfold o_e
  rw [if_neg h]
theorem e_sm.e (M : Nat → Nat → Int) (a i : Nat) (z : Int) (h1 : ¬ (0 = a ∧ 1 = i)) (h3 : ¬ (0 = a ∧ 3 = i)) (h7 : a ≠ 7) (h8 : a ≠ 8) : e_sm M (o_e M a i z) := ⟨e_at h1, e_at h3, e_row (Ne.symm h7), e_row (Ne.symm h8)⟩
theorem e_pay (M : Nat → Nat → Int) (s : Nat) (c : Int) : e_sm M (m_pay M s c) := (e_sm.e M 1 s _ (by omega) (by omega) (by omega) (by omega)).t (e_sm.e _ 0 5 _ (by omega) (by omega) (by omega) (by omega))
theorem e_cut (M : Nat → Nat → Int) (r : Int) : e_sm M (m_cut M r) := by
  unfold m_cut
  by_cases c : r = -1
  · rw [if_pos c]; exact e_sm.rf M
  · rw [if_neg c]
    refine ⟨?_, ?_, ?_, ?_⟩
    · show (if (0 = 9 ∨ 0 = 10) ∧ r ≤ ((1 : Nat) : Int) then M 0 2 else if 0 = 0 ∧ 1 = 6 then M 0 6 - 1 else M 0 1) = M 0 1
      rw [if_neg (by omega), if_neg (by omega)]
    · show (if (0 = 9 ∨ 0 = 10) ∧ r ≤ ((3 : Nat) : Int) then M 0 4 else if 0 = 0 ∧ 3 = 6 then M 0 6 - 1 else M 0 3) = M 0 3
      rw [if_neg (by omega), if_neg (by omega)]
    · funext j
      show (if (7 = 9 ∨ 7 = 10) ∧ r ≤ (j : Int) then M 7 (j + 1) else if 7 = 0 ∧ j = 6 then M 0 6 - 1 else M 7 j) = M 7 j
      rw [if_neg (by omega), if_neg (by omega)]
    · funext j
      show (if (8 = 9 ∨ 8 = 10) ∧ r ≤ (j : Int) then M 8 (j + 1) else if 8 = 0 ∧ j = 6 then M 0 6 - 1 else M 8 j) = M 8 j
      rw [if_neg (by omega), if_neg (by omega)]
theorem e_free (M : Nat → Nat → Int) (x : Nat) : e_sm M (m_free M x) := ((e_sm.e M 5 x 0 (by omega) (by omega) (by omega) (by omega)).t (e_sm.e _ 6 x 0 (by omega) (by omega) (by omega) (by omega))).t (e_cut _ _)
theorem e_lease (M : Nat → Nat → Int) (s x : Nat) (t : Int) : e_sm M (m_lease M s x t) := ((e_pay M s _).t (e_sm.e _ 5 x _ (by omega) (by omega) (by omega) (by omega))).t (e_sm.e _ 6 x _ (by omega) (by omega) (by omega) (by omega))
theorem e_req (M : Nat → Nat → Int) (x t : Int) : e_sm M (m_req M x t) := ((e_sm.e M 0 6 _ (by omega) (by omega) (by omega) (by omega)).t (e_sm.e _ 9 _ _ (by omega) (by omega) (by omega) (by omega))).t (e_sm.e _ 10 _ _ (by omega) (by omega) (by omega) (by omega))
theorem e_oil (M : Nat → Nat → Int) (u : Int) : e_sm M (m_oil M u) := e_sm.e M 0 2 _ (by omega) (by omega) (by omega) (by omega)
theorem e_ship (M : Nat → Nat → Int) : e_sm M (m_ship M) := (((e_sm.e M 0 0 _ (by omega) (by omega) (by omega) (by omega)).t (e_sm.e _ 1 _ _ (by omega) (by omega) (by omega) (by omega))).t (e_sm.e _ 2 _ _ (by omega) (by omega) (by omega) (by omega))).t (e_sm.e _ 3 _ _ (by omega) (by omega) (by omega) (by omega))
theorem e_lamp {M : Nat → Nat → Int} {v : Int} (h : e_ok M) (h0 : 0 ≤ M 0 1) (h3 : 0 ≤ M 0 3) : e_ok (m_lamp M v) := by
  intro i hi
  have e1 : m_lamp M v 0 1 = M 0 1 + 1 := by simp [m_lamp, o_e]
  have e3 : m_lamp M v 0 3 = M 0 3 := by simp [m_lamp, o_e]
  have e7 : m_lamp M v 7 i = if i = (M 0 1).toNat then 0 else M 7 i := by simp [m_lamp, o_e]
  have e8 : m_lamp M v 8 i = if i = (M 0 1).toNat then 0 else M 8 i := by simp [m_lamp, o_e]
  rw [e1] at hi
  rw [e3, e7, e8]
  by_cases q : i = (M 0 1).toNat
  · rw [if_pos q, if_pos q]; omega
  · rw [if_neg q, if_neg q]; exact h i (by omega)
theorem e_fd {s : (Nat → Nat → Int) → Nat → (Nat → Nat → Int)} (hs : ∀ M i, e_sm M (s M i)) (M : Nat → Nat → Int) : ∀ n, e_sm M (o_fd s M n)
  | 0 => e_sm.rf M
  | n + 1 => (e_fd hs M n).t (hs _ n)
theorem e_renew1 (M : Nat → Nat → Int) (x : Nat) (t : Int) : e_sm M (m_renew1 M x t) := by
  unfold m_renew1
  split
  · exact (e_pay M _ _).t (e_sm.e _ 6 x _ (by omega) (by omega) (by omega) (by omega))
  · exact e_sm.e M 0 4 _ (by omega) (by omega) (by omega) (by omega)
theorem e_fine1 (M : Nat → Nat → Int) (i : Nat) : e_sm M (m_fine1 M i) := by
  unfold m_fine1
  split
  · exact ((e_pay M _ _).t (e_sm.e _ 2 i _ (by omega) (by omega) (by omega) (by omega))).t (e_sm.e _ 3 i _ (by omega) (by omega) (by omega) (by omega))
  · exact e_sm.rf M
theorem e_end1 (M : Nat → Nat → Int) (i : Nat) : e_sm M (m_end1 M i) := by
  unfold m_end1
  split
  · exact e_free M i
  · exact e_sm.rf M
/-- within an hour: the first n lamps have burnt -/
def e_bn (M : Nat → Nat → Int) (n : Nat) : Prop := ∀ i : Nat, (i : Int) < M 0 1 → M 8 i ≤ M 7 i ∧ M 7 i ≤ M 0 3 + (if i < n then 1 else 0) ∧ 0 ≤ M 7 i
theorem e_burns {M : Nat → Nat → Int} (h : e_ok M) : ∀ n, e_bn (o_fd m_burn1 M n) n ∧ (o_fd m_burn1 M n) 0 1 = M 0 1 ∧ (o_fd m_burn1 M n) 0 3 = M 0 3
  | 0 => ⟨fun i hi => by rw [if_neg (by omega)]; have := h i hi; exact ⟨this.1, by have := this.2.1; show M 7 i ≤ M 0 3 + 0; omega, this.2.2⟩, rfl, rfl⟩
  | n + 1 => by
    obtain ⟨a, b, c⟩ := e_burns h n
    have e : o_fd m_burn1 M (n + 1) = m_burn1 (o_fd m_burn1 M n) n := rfl
    rw [e]
    obtain ⟨N, hN⟩ : ∃ N, N = o_fd m_burn1 M n := ⟨_, rfl⟩
    rw [← hN] at a b c ⊢
    unfold m_burn1
    by_cases q : 0 < N 5 n ∧ N 4 n ≤ N 0 2
    · rw [if_pos q]
      refine ⟨fun i hi => ?_, ?_, ?_⟩
      · have hi9 : (i : Int) < N 0 1 := by simpa [o_e] using hi
        have e7 : (o_e (o_e (o_e N 8 n 1) 0 2 (N 0 2 - N 4 n)) 7 n (N 7 n + 1)) 7 i = if i = n then N 7 n + 1 else N 7 i := by simp [o_e]
        have e8 : (o_e (o_e (o_e N 8 n 1) 0 2 (N 0 2 - N 4 n)) 7 n (N 7 n + 1)) 8 i = if i = n then 1 else N 8 i := by simp [o_e]
        have e3 : (o_e (o_e (o_e N 8 n 1) 0 2 (N 0 2 - N 4 n)) 7 n (N 7 n + 1)) 0 3 = N 0 3 := by simp [o_e]
        rw [e7, e8, e3]
        have t := a i hi9
        by_cases w : i = n
        · subst w
          rw [if_neg (by omega)] at t
          rw [if_pos rfl, if_pos rfl, if_pos (by omega)]
          omega
        · rw [if_neg w, if_neg w]
          by_cases z : i < n
          · rw [if_pos z] at t; rw [if_pos (by omega)]; exact t
          · rw [if_neg z] at t; rw [if_neg (by omega)]; exact t
      · rw [← b]; simp [o_e]
      · rw [← c]; simp [o_e]
    · rw [if_neg q]
      refine ⟨fun i hi => ?_, ?_, ?_⟩
      · have hi9 : (i : Int) < N 0 1 := by simpa [o_e] using hi
        have e7 : (o_e N 8 n 0) 7 i = N 7 i := by simp [o_e]
        have e8 : (o_e N 8 n 0) 8 i = if i = n then 0 else N 8 i := by simp [o_e]
        have e3 : (o_e N 8 n 0) 0 3 = N 0 3 := by simp [o_e]
        rw [e7, e8, e3]
        have t := a i hi9
        by_cases w : i = n
        · subst w
          rw [if_neg (by omega)] at t
          rw [if_pos rfl, if_pos (by omega)]
          omega
        · rw [if_neg w]
          by_cases z : i < n
          · rw [if_pos z] at t; rw [if_pos (by omega)]; exact t
          · rw [if_neg z] at t; rw [if_neg (by omega)]; exact t
      · rw [← b]; simp [o_e]
      · rw [← c]; simp [o_e]
theorem e_hour {M : Nat → Nat → Int} (h : e_ok M) : e_ok (m_hour M) := by
  have h1 : e_ok (m_renews M) := h.sm ((e_fd (fun M i => e_renew1 M _ _) M _).t (e_sm.e _ 0 6 0 (by omega) (by omega) (by omega) (by omega)))
  obtain ⟨a, b, c⟩ := e_burns h1 (m_renews M 0 1).toNat
  obtain ⟨N, hN⟩ : ∃ N, N = m_burns (m_renews M) := ⟨_, rfl⟩
  have hN' : o_fd m_burn1 (m_renews M) (m_renews M 0 1).toNat = N := hN.symm
  rw [hN'] at a b c
  have f := e_fd (fun M i => e_fine1 M i) N (N 0 0).toNat
  have h3 : e_ok (m_tick (m_fines N)) := by
    intro i hi
    have hi9 : (i : Int) < N 0 1 := by
      have e : m_tick (m_fines N) 0 1 = m_fines N 0 1 := by simp [m_tick, o_e]
      rw [e] at hi
      have e2 : m_fines N 0 1 = N 0 1 := f.1
      omega
    have t := a i hi9
    rw [if_pos (by omega)] at t
    have e7 : m_tick (m_fines N) 7 i = N 7 i := by
      rw [show m_tick (m_fines N) 7 i = m_fines N 7 i by simp [m_tick, o_e]]
      exact congrFun f.2.2.1 i
    have e8 : m_tick (m_fines N) 8 i = N 8 i := by
      rw [show m_tick (m_fines N) 8 i = m_fines N 8 i by simp [m_tick, o_e]]
      exact congrFun f.2.2.2 i
    have e3 : m_tick (m_fines N) 0 3 = N 0 3 + 1 := by
      rw [show m_tick (m_fines N) 0 3 = m_fines N 0 3 + 1 by simp [m_tick, o_e]]
      rw [show m_fines N 0 3 = N 0 3 from f.2.1]
    rw [e7, e8, e3]
    exact t
  have e : m_hour M = o_fd m_end1 (m_tick (m_fines N)) (m_tick (m_fines N) 0 1).toNat := by rw [hN]; rfl
  rw [e]
  exact h3.sm (e_fd (fun M i => e_end1 M i) _ _)
theorem e_pass {M : Nat → Nat → Int} (h : e_ok M) : ∀ n, e_ok (m_pass M n)
  | 0 => h
  | n + 1 => e_hour (e_pass h n)
/-- who asked for a renewal -/
theorem n_pos {M : Nat → Nat → Int} (x : Nat) : 0 ≤ m_pos M x ↔ ∃ k, k < (M 0 6).toNat ∧ M 9 k = x := by
  have h := o_ps_fst (fun i => M 9 i = (x : Int)) (M 0 6).toNat
  have e : m_pos M x = o_ps (fun i => M 9 i = (x : Int)) (M 0 6).toNat := rfl
  rw [e]
  rcases h with ⟨a, b⟩ | ⟨i, a, b, c, -⟩
  · constructor
    · intro q; omega
    · rintro ⟨k, h1, h2⟩; exact absurd h2 (b k h1)
  · constructor
    · intro _; exact ⟨i, b, c⟩
    · intro _; omega
