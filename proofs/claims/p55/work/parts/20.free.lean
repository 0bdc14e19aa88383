theorem o_st_1' {g g1 M : Nat → Nat → Int} (h : o_st g M) {i : Nat} {w z : Int} (e : g1 = o_e g 3 i w) (hw : w = z) : o_st g1 (o_e M 1 i z) := by subst e; subst hw; exact o_st_1 h i _
theorem o_st_2' {g g1 M : Nat → Nat → Int} (h : o_st g M) {i : Nat} {w z : Int} (e : g1 = o_e g 4 i w) (hw : w = z) : o_st g1 (o_e M 2 i z) := by subst e; subst hw; exact o_st_2 h i _
theorem o_st_3' {g g1 M : Nat → Nat → Int} (h : o_st g M) {i : Nat} {w z : Int} (e : g1 = o_e g 5 i w) (hw : w = z) : o_st g1 (o_e M 3 i z) := by subst e; subst hw; exact o_st_3 h i _
theorem o_st_4' {g g1 M : Nat → Nat → Int} (h : o_st g M) {i : Nat} {w z : Int} (e : g1 = o_e g 7 i w) (hw : w = z) : o_st g1 (o_e M 4 i z) := by subst e; subst hw; exact o_st_4 h i _
theorem o_st_5' {g g1 M : Nat → Nat → Int} (h : o_st g M) {i : Nat} {w z : Int} (e : g1 = o_e g 8 i w) (hw : w = z - 1) : o_st g1 (o_e M 5 i z) := by subst e; subst hw; exact o_st_5 h i _
theorem o_st_6' {g g1 M : Nat → Nat → Int} (h : o_st g M) {i : Nat} {w z : Int} (e : g1 = o_e g 9 i w) (hw : w = z) : o_st g1 (o_e M 6 i z) := by subst e; subst hw; exact o_st_6 h i _
theorem o_st_7' {g g1 M : Nat → Nat → Int} (h : o_st g M) {i : Nat} {w z : Int} (e : g1 = o_e g 10 i w) (hw : w = z) : o_st g1 (o_e M 7 i z) := by subst e; subst hw; exact o_st_7 h i _
theorem o_st_8' {g g1 M : Nat → Nat → Int} (h : o_st g M) {i : Nat} {w z : Int} (e : g1 = o_e g 11 i w) (hw : w = z) : o_st g1 (o_e M 8 i z) := by subst e; subst hw; exact o_st_8 h i _
theorem o_st_9' {g g1 M : Nat → Nat → Int} (h : o_st g M) {i : Nat} {w z : Int} (e : g1 = o_e g 13 i w) (hw : w = z) : o_st g1 (o_e M 9 i z) := by subst e; subst hw; exact o_st_9 h i _
theorem o_st_10' {g g1 M : Nat → Nat → Int} (h : o_st g M) {i : Nat} {w z : Int} (e : g1 = o_e g 14 i w) (hw : w = z) : o_st g1 (o_e M 10 i z) := by subst e; subst hw; exact o_st_10 h i _
theorem o_st_0_2' {g g1 M : Nat → Nat → Int} (h : o_st g M) {w z : Int} (e : g1 = o_e g 1 3 w) (hw : w = z) : o_st g1 (o_e M 0 2 z) := by subst e; subst hw; exact o_st_0_2 h _
theorem o_st_0_3' {g g1 M : Nat → Nat → Int} (h : o_st g M) {w z : Int} (e : g1 = o_e g 1 4 w) (hw : w = z) : o_st g1 (o_e M 0 3 z) := by subst e; subst hw; exact o_st_0_3 h _
theorem o_st_0_5' {g g1 M : Nat → Nat → Int} (h : o_st g M) {w z : Int} (e : g1 = o_e g 1 5 w) (hw : w = z) : o_st g1 (o_e M 0 5 z) := by subst e; subst hw; exact o_st_0_5 h _
theorem o_st_0_4' {g g1 M : Nat → Nat → Int} (h : o_st g M) {w z : Int} (e : g1 = o_e g 1 6 w) (hw : w = z) : o_st g1 (o_e M 0 4 z) := by subst e; subst hw; exact o_st_0_4 h _
theorem o_fr_e' {S : Nat → Prop} {g g1 g2 : Nat → Nat → Int} {b k : Nat} {z : Int} (h1 : o_fr S g g1) (e : g2 = o_e g1 b k z) (hb : S b) : o_fr S g g2 := by subst e; exact o_fr_e h1 hb
theorem o_st_oil {g M : Nat → Nat → Int} (h : o_st g M) : g 1 3 = M 0 2 := h.2.2.2.1
theorem o_st_hour {g M : Nat → Nat → Int} (h : o_st g M) : g 1 4 = M 0 3 := h.2.2.2.2.1
theorem o_st_off {g M : Nat → Nat → Int} (h : o_st g M) : g 1 5 = M 0 5 := h.2.2.2.2.2.1
theorem o_st_ref {g M : Nat → Nat → Int} (h : o_st g M) : g 1 6 = M 0 4 := h.2.2.2.2.2.2
theorem o_st_s {g M : Nat → Nat → Int} (h : o_st g M) : g 2 0 = M 0 0 ∧ ∀ i : Nat, (i : Int) < M 0 0 → g 3 i = M 1 i ∧ g 4 i = M 2 i ∧ g 5 i = M 3 i := h.1
theorem o_st_l {g M : Nat → Nat → Int} (h : o_st g M) : g 6 0 = M 0 1 ∧ ∀ i : Nat, (i : Int) < M 0 1 → g 7 i = M 4 i ∧ g 8 i = M 5 i - 1 ∧ g 9 i = M 6 i ∧ g 10 i = M 7 i ∧ g 11 i = M 8 i := h.2.1
theorem o_st_q {g M : Nat → Nat → Int} (h : o_st g M) : g 12 0 = M 0 6 ∧ ∀ i : Nat, (i : Int) < M 0 6 → g 13 i = M 9 i ∧ g 14 i = M 10 i := h.2.2.1
/-- the first place, as a function -/
def o_ps (p : Nat → Prop) [DecidablePred p] : Nat → Int
  | 0 => -1
  | n + 1 => if o_ps p n = -1 then (if p n then (n : Int) else -1) else o_ps p n
theorem o_ps_fst (p : Nat → Prop) [DecidablePred p] (n : Nat) : o_fst p n (o_ps p n) := by
  induction n with
  | zero => exact Or.inl ⟨rfl, fun j hj => absurd hj (Nat.not_lt_zero j)⟩
  | succ n ih =>
    unfold o_ps
    rcases ih with ⟨h1, h2⟩ | ⟨k, h1, h2, h3, h4⟩
    · rw [if_pos h1]
      by_cases q : p n
      · rw [if_pos q]
        exact Or.inr ⟨n, rfl, Nat.lt_succ_self n, q, h2⟩
      · rw [if_neg q]
        exact Or.inl ⟨rfl, fun j hj => by rcases Nat.lt_succ_iff_lt_or_eq.mp hj with c | c; exact h2 j c; rw [c]; exact q⟩
    · rw [if_neg (by omega)]
      exact Or.inr ⟨k, h1, by omega, h3, h4⟩
/-- the request at r is taken out; -1: none -/
def m_cut (M : Nat → Nat → Int) (r : Int) : Nat → Nat → Int := if r = -1 then M else fun a j => if (a = 9 ∨ a = 10) ∧ r ≤ j then M a (j + 1) else if a = 0 ∧ j = 6 then M 0 6 - 1 else M a j
def m_pos (M : Nat → Nat → Int) (x : Nat) : Int := o_ps (fun i => M 9 i = x) (M 0 6).toNat
def m_free (M : Nat → Nat → Int) (x : Nat) : Nat → Nat → Int := m_cut (o_e (o_e M 5 x 0) 6 x 0) (m_pos M x)
set_option maxRecDepth 100000 in
set_option maxHeartbeats 4000000 in
/-- fillUp(u) -/
theorem ct_X10_fillUp {l : Launch} (hl : l.stackTraces = false) (d : Nat) (g : Nat → Nat → Int) (M : Nat → Nat → Int) (hst : o_st g M) (hwf : o_wf M) (u : Int) (hu : o_R u) : o_Ct l yX10_fillUp wX10_fillUp (d + 1) o_no [.ref 1, .int (o_I u)] o_N (o_mem g) 0 0 (o_mt (some (.int (o_I (M 0 2 + u)))) (fun g' => o_st g' (m_oil M u) ∧ o_fr (o_cs 1) g g')) := by
  refine o_Ct.ofV hl mX10_fillUp (by decide +kernel) rfl rfl rfl (Nat.le_of_ble_eq_true rfl) ?_
  obtain ⟨hrs, hrl, hrq, hg3, hg4, hg5, hg6⟩ := id hst
  obtain ⟨⟨hws, hwl, hwq, hwo, hwle, hwrq, hwrd⟩, hwh, hwc, hwe⟩ := id hwf
  have hs0 := hrs.1
  have hl0 := hrl.1
  have hq0 := hrq.1
  have hs1 := o_rs2 hrs
  have hl1 := o_rl6 hrl
  have hq1 := o_rq12 hrq
  obtain ⟨hw1, hw2, hw3⟩ := id hws
  obtain ⟨hw4, hw5, hw6, hw7, hw8⟩ := id hwl
  obtain ⟨hw9, hw10, hw11⟩ := id hwq
  obtain ⟨u1, u2⟩ := id hu
  refine o_aload_n dX10_fillUp_0 rfl ?_
  refine o_dup dX10_fillUp_1 rfl ?_
  refine o_gf dX10_fillUp_2 fl_X10_37 rfl (by decide) rfl ?_
  refine o_iload_n dX10_fillUp_5 rfl ?_
  refine o_iadd dX10_fillUp_6 ?_
  refine o_pmE dX10_fillUp_7 fp_X10_37 rfl (by decide) (Nat.le_of_ble_eq_true rfl) rfl rfl (fun _ => rfl) (by decide) (fun g_7 e_7 => ?_)
  have h_7 := o_st_0_2' hst e_7 (show g 1 3 + u = M 0 2 + u by omega)
  have v_7 : g_7 1 3 = M 0 2 + u := o_st_oil h_7
  refine o_aload_n dX10_fillUp_10 rfl ?_
  refine o_gf dX10_fillUp_11 fl_X10_37 rfl (by decide) rfl ?_
  refine o_ret1 dX10_fillUp_14 trivial ?_
  exact o_mtI v_7.symm ⟨h_7, o_fr_e' o_fr_r e_7 (o_cs1 (by decide) (by decide))⟩
set_option maxRecDepth 100000 in
set_option maxHeartbeats 4000000 in
/-- payOffice(s, c) -/
theorem ct_X10_payOffice {l : Launch} (hl : l.stackTraces = false) (d : Nat) (g : Nat → Nat → Int) (M : Nat → Nat → Int) (hst : o_st g M) (hwk : o_wk M) (s : Nat) (hs : (s : Int) < M 0 0) (c : Int) : o_Ct l yX10_payOffice wX10_payOffice (d + 1) o_no [.ref 1, .int (o_I (s : Int)), .int (o_I c)] o_N (o_mem g) 0 0 (o_mt (none) (fun g' => o_st g' (m_pay M s c) ∧ o_fr (o_cs 1) g g')) := by
  refine o_Ct.ofV hl mX10_payOffice (by decide +kernel) rfl rfl rfl (Nat.le_of_ble_eq_true rfl) ?_
  obtain ⟨hrs, hrl, hrq, hg3, hg4, hg5, hg6⟩ := id hst
  obtain ⟨hws, hwl, hwq, hwo, hwle, hwrq, hwrd⟩ := id hwk
  have hs0 := hrs.1
  have hl0 := hrl.1
  have hq0 := hrq.1
  have hs1 := o_rs2 hrs
  have hl1 := o_rl6 hrl
  have hq1 := o_rq12 hrq
  obtain ⟨hw1, hw2, hw3⟩ := id hws
  obtain ⟨hw4, hw5, hw6, hw7, hw8⟩ := id hwl
  obtain ⟨hw9, hw10, hw11⟩ := id hwq
  refine o_iload_n dX10_payOffice_0 rfl ?_
  refine o_if_lt (tgt := 38) dX10_payOffice_1 (by decide) ⟨by omega, by omega⟩ (fun c_1 => ?_) (fun c_1 => ?_)
  · skip
    refine o_ret0 dX10_payOffice_38 trivial ?_
    first
      | exact o_mt0 ⟨h_35, o_fr_e' (o_fr_e' o_fr_r e_27 (o_cs1 (by decide) (by decide))) e_35 (o_cs1 (by decide) (by decide))⟩
      | (exfalso; omega)
  · skip
    refine o_iload_n dX10_payOffice_4 rfl ?_
    refine o_aload_n dX10_payOffice_5 rfl ?_
    refine o_gf dX10_payOffice_6 fl_X10_12 rfl (by decide) rfl ?_
    refine o_gf dX10_payOffice_9 fl_X10_32 rfl (by decide) rfl ?_
    refine o_icmp_ge (tgt := 38) dX10_payOffice_12 (by decide) ⟨by omega, by omega⟩ ⟨by omega, by omega⟩ (fun c_12 => ?_) (fun c_12 => ?_)
    · skip
      refine o_ret0 dX10_payOffice_38 trivial ?_
      first
        | exact o_mt0 ⟨h_35, o_fr_e' (o_fr_e' o_fr_r e_27 (o_cs1 (by decide) (by decide))) e_35 (o_cs1 (by decide) (by decide))⟩
        | (exfalso; omega)
    · skip
      refine o_aload_n dX10_payOffice_15 rfl ?_
      refine o_gf dX10_payOffice_16 fl_X10_12 rfl (by decide) rfl ?_
      refine o_gf dX10_payOffice_19 fl_X10_80 rfl (by decide) rfl ?_
      refine o_iload_n dX10_payOffice_22 rfl ?_
      refine o_dup2 dX10_payOffice_23 rfl rfl ?_
      refine o_ialdn (j := s) dX10_payOffice_24 (by decide) rfl (by decide) rfl (by omega) ?_
      refine o_iload_n dX10_payOffice_25 rfl ?_
      refine o_isub dX10_payOffice_26 ?_
      refine o_iaEn (j := s) dX10_payOffice_27 rfl (by decide) (by decide) rfl (by omega) (fun _ => rfl) (by decide) (fun g_27 e_27 => ?_)
      have h_27 := o_st_1' hst e_27 (show g 3 s - c = M 1 s - c by have := hs1 s hs; omega)
      refine o_aload_n dX10_payOffice_28 rfl ?_
      refine o_dup dX10_payOffice_29 rfl ?_
      refine o_gf dX10_payOffice_30 fl_X10_83 rfl (by decide) rfl ?_
      refine o_iload_n dX10_payOffice_33 rfl ?_
      refine o_iadd dX10_payOffice_34 ?_
      refine o_pmE dX10_payOffice_35 fp_X10_83 rfl (by decide) (Nat.le_of_ble_eq_true rfl) rfl rfl (fun _ => rfl) (by decide) (fun g_35 e_35 => ?_)
      have h_35 := o_st_0_5' h_27 e_35 (show g_27 1 5 + c = M 0 5 + c by have t := o_st_off h_27; have v : g_27 1 5 = M 0 5 := t; omega)
      refine o_ret0 dX10_payOffice_38 trivial ?_
      first
        | exact o_mt0 ⟨h_35, o_fr_e' (o_fr_e' o_fr_r e_27 (o_cs1 (by decide) (by decide))) e_35 (o_cs1 (by decide) (by decide))⟩
        | (exfalso; omega)
theorem o_st_clear {g M : Nat → Nat → Int} (h : o_st g M) : o_st (o_e g 12 0 0) (o_e M 0 6 0) := by
  obtain ⟨⟨h1, h2⟩, ⟨h3, h4⟩, ⟨h5, h6⟩, h7, h8, h9, h10⟩ := h
  refine ⟨⟨by simpa [o_e] using h1, fun k hk => ?_⟩, ⟨by simpa [o_e] using h3, fun k hk => ?_⟩, ⟨by simp [o_e], fun k hk => ?_⟩, by simpa [o_e] using h7, by simpa [o_e] using h8, by simpa [o_e] using h9, by simpa [o_e] using h10⟩
  · have q := h2 k (by simpa [o_e] using hk)
    simpa [o_e] using q
  · have q := h4 k (by simpa [o_e] using hk)
    simpa [o_e] using q
  · have q : (k : Int) < 0 := by simpa [o_e] using hk
    omega
set_option maxRecDepth 100000 in
set_option maxHeartbeats 4000000 in
/-- clear() -/
theorem ct_X8_clear {l : Launch} (hl : l.stackTraces = false) (d : Nat) (g : Nat → Nat → Int) (M : Nat → Nat → Int) (hst : o_st g M) : o_Ct l yX8_clear wX8_clear (d + 1) o_no [.ref 12] o_N (o_mem g) 0 0 (o_mt (none) (fun g' => o_st g' (o_e M 0 6 0) ∧ o_fr (o_cs 1) g g')) := by
  refine o_Ct.ofV hl mX8_clear (by decide +kernel) rfl rfl rfl (Nat.le_of_ble_eq_true rfl) ?_
  refine o_aload_n dX8_clear_0 rfl ?_
  refine o_iconst dX8_clear_1 ?_
  refine o_pmE dX8_clear_2 fp_X8_18 rfl (by decide) (Nat.le_of_ble_eq_true rfl) rfl rfl (fun _ => rfl) (by decide) (fun g_2 e_2 => ?_)
  refine o_ret0 dX8_clear_5 trivial ?_
  exact o_mt0 ⟨by rw [e_2]; exact o_st_clear hst, o_fr_e' o_fr_r e_2 (o_cs1 (by decide) (by decide))⟩
theorem o_st_cut {g g' M : Nat → Nat → Int} {r : Int} {k : Nat} (h : o_st g M) (hN : 0 ≤ M 0 6) (hr : -1 ≤ r ∧ r < M 0 6) (hk : (k : Int) = M 0 6 - (if r = -1 then 0 else 1))
    (hA : ∀ j : Nat, j < k → g' 13 j = M 9 (if r ≠ -1 ∧ r ≤ j then j + 1 else j) ∧ g' 14 j = M 10 (if r ≠ -1 ∧ r ≤ j then j + 1 else j)) (hC : ∀ a, a ≠ 13 → a ≠ 14 → g' a = g a) : o_st (o_e g' 12 0 k) (m_cut M r) := by
  obtain ⟨⟨h1, h2⟩, ⟨h3, h4⟩, ⟨h5, h6⟩, h7, h8, h9, h10⟩ := h
  by_cases c : r = -1
  · simp only [m_cut, if_pos c]
    simp only [c, if_true] at hk
    have e12 : o_e g' 12 0 k 12 0 = M 0 6 := by rw [o_e_s]; omega
    refine ⟨⟨by simpa [o_e, hC] using h1, fun i hi => by simpa [o_e, hC] using h2 i hi⟩, ⟨by simpa [o_e, hC] using h3, fun i hi => by simpa [o_e, hC] using h4 i hi⟩, ⟨e12, fun i hi => ?_⟩, by simpa [o_e, hC] using h7, by simpa [o_e, hC] using h8, by simpa [o_e, hC] using h9, by simpa [o_e, hC] using h10⟩
    have q := hA i (by omega)
    simpa [o_e, c] using q
  · simp only [if_neg c] at hk
    have e06 : m_cut M r 0 6 = M 0 6 - 1 := by simp [m_cut, c]
    have e0 : ∀ j, j ≠ 6 → m_cut M r 0 j = M 0 j := fun j hj => by simp [m_cut, c, hj]
    have ea : ∀ a j, a ≠ 0 → a ≠ 9 → a ≠ 10 → m_cut M r a j = M a j := fun a j q0 q1 q2 => by simp [m_cut, c, q0, q1, q2]
    refine ⟨⟨?_, fun i hi => ?_⟩, ⟨?_, fun i hi => ?_⟩, ⟨?_, fun i hi => ?_⟩, ?_, ?_, ?_, ?_⟩
    · rw [e0 0 (by decide)]; simpa [o_e, hC] using h1
    · rw [e0 0 (by decide)] at hi
      rw [ea 1 i (by decide) (by decide) (by decide), ea 2 i (by decide) (by decide) (by decide), ea 3 i (by decide) (by decide) (by decide)]
      simpa [o_e, hC] using h2 i hi
    · rw [e0 1 (by decide)]; simpa [o_e, hC] using h3
    · rw [e0 1 (by decide)] at hi
      rw [ea 4 i (by decide) (by decide) (by decide), ea 5 i (by decide) (by decide) (by decide), ea 6 i (by decide) (by decide) (by decide), ea 7 i (by decide) (by decide) (by decide), ea 8 i (by decide) (by decide) (by decide)]
      simpa [o_e, hC] using h4 i hi
    · rw [e06, o_e_s]; omega
    · rw [e06] at hi
      have q := hA i (by omega)
      have e9 : m_cut M r 9 i = M 9 (if r ≠ -1 ∧ r ≤ i then i + 1 else i) := by by_cases c2 : r ≤ i <;> simp [m_cut, c, c2]
      have e10 : m_cut M r 10 i = M 10 (if r ≠ -1 ∧ r ≤ i then i + 1 else i) := by by_cases c2 : r ≤ i <;> simp [m_cut, c, c2]
      rw [e9, e10]
      simpa [o_e] using q
    · rw [e0 2 (by decide)]; simpa [o_e, hC] using h7
    · rw [e0 3 (by decide)]; simpa [o_e, hC] using h8
    · rw [e0 5 (by decide)]; simpa [o_e, hC] using h9
    · rw [e0 4 (by decide)]; simpa [o_e, hC] using h10
set_option maxRecDepth 100000 in
set_option maxHeartbeats 4000000 in
/-- removeFor(x) -/
theorem ct_X8_removeFor {l : Launch} (hl : l.stackTraces = false) (d : Nat) (g : Nat → Nat → Int) (M : Nat → Nat → Int) (hst : o_st g M) (hwq : o_wq M) (hwrd : ∀ k k' : Nat, (k : Int) < M 0 6 → (k' : Int) < M 0 6 → M 9 k = M 9 k' → k = k') (x : Nat) (hx : (x : Int) < 8) (h18 : M 0 1 ≤ 8) (r : Int) (hr9 : o_fst (fun i => M 9 i = x) (M 0 6).toNat r) : o_Ct l yX8_removeFor wX8_removeFor (d + 1) o_no [.ref 12, .int (o_I (x : Int))] o_N (o_mem g) 0 0 (o_mt (none) (fun g' => o_st g' (m_cut M r) ∧ o_fr (o_cs 1) g g')) := by
  refine o_Ct.ofV hl mX8_removeFor (by decide +kernel) rfl rfl rfl (Nat.le_of_ble_eq_true rfl) ?_
  obtain ⟨hw9, hw10, hw11⟩ := id hwq
  obtain ⟨N, hN, hN8⟩ := o_N6 hwq
  have hq0 := (o_st_q hst).1
  have hr : -1 ≤ r ∧ r < M 0 6 := by rcases hr9 with ⟨rfl, -⟩ | ⟨j, rfl, hj, -⟩ <;> omega
  have hps : ∀ i : Nat, (i : Int) < M 0 6 → (M 9 i = (x : Int) ↔ r = i) := by
    intro i hi
    rcases hr9 with ⟨rfl, h⟩ | ⟨j, rfl, hj, hj2, hj3⟩
    · exact ⟨fun q => absurd q (h i (by omega)), fun q => by omega⟩
    · exact ⟨fun q => by have := hwrd i j hi (by omega) (by omega); omega, fun q => (show j = i by omega) ▸ hj2⟩
  have key := o_lp (fun i => ∀ (k : Nat) (g1 : Nat → Nat → Int), (k : Int) = i - (if r ≠ -1 ∧ r < i then 1 else 0) → (∀ j : Nat, j < k → g1 13 j = M 9 (if r ≠ -1 ∧ r ≤ j then j + 1 else j) ∧ g1 14 j = M 10 (if r ≠ -1 ∧ r ≤ j then j + 1 else j)) → (∀ j : Nat, i ≤ j → (j : Int) < M 0 6 → g1 13 j = M 9 j ∧ g1 14 j = M 10 j) → (∀ a, a ≠ 13 → a ≠ 14 → g1 a = g a) → o_V l mX8_removeFor (d + 1) o_no (o_mt (none) (fun g' => o_st g' (m_cut M r) ∧ o_fr (o_cs 1) g g')) 4 [(0, .ref 12), (1, .int (o_I (x : Int))), (2, .int (o_I ((k : Nat) : Int))), (3, .int (o_I ((i : Nat) : Int)))] [] o_N (o_mem g1) 0 0) N (fun i hi ih k g1 hk hA hB hC => by
    have hki : (k : Int) ≤ i ∧ (i : Int) - 1 ≤ k := by revert hk; split <;> omega
    have hBi := hB i (Nat.le_refl i)
    refine o_iload_n dX8_removeFor_4 rfl ?_
    refine o_aload_n dX8_removeFor_5 rfl ?_
    have hg12 : g1 12 0 = M 0 6 := by rw [hC 12 (by decide) (by decide)]; exact (o_st_q hst).1
    refine o_gf dX8_removeFor_6 fl_X8_18 rfl (by decide) rfl ?_
    refine o_icmp_ge (tgt := 55) dX8_removeFor_9 (by decide) ⟨by omega, by omega⟩ ⟨by omega, by omega⟩ (fun c_9 => ?_) (fun c_9 => ?_)
    · skip
      refine o_aload_n dX8_removeFor_55 rfl ?_
      refine o_iload_n dX8_removeFor_56 rfl ?_
      refine o_pmE dX8_removeFor_57 fp_X8_18 rfl (by decide) (Nat.le_of_ble_eq_true rfl) rfl rfl (fun _ => rfl) (by decide) (fun g_57 e_57 => ?_)
      refine o_ret0 dX8_removeFor_60 trivial ?_
      exact o_mt0 ⟨by rw [e_57]; exact o_st_cut hst (by omega) hr (by revert hk; split <;> split <;> omega) hA hC, fun a ha => by rw [e_57]; have u : a ≠ 12 := fun q => ha (by rw [q]; exact o_cs1 (by decide) (by decide)); have u1 : a ≠ 13 := fun q => ha (by rw [q]; exact o_cs1 (by decide) (by decide)); have u2 : a ≠ 14 := fun q => ha (by rw [q]; exact o_cs1 (by decide) (by decide)); rw [o_e_n u, hC a u1 u2]⟩
    · skip
      refine o_aload_n dX8_removeFor_12 rfl ?_
      refine o_gf dX8_removeFor_13 fl_X8_9 rfl (by decide) rfl ?_
      refine o_iload_n dX8_removeFor_16 rfl ?_
      refine o_ialdn (j := i) dX8_removeFor_17 (by decide) rfl (by decide) rfl (by omega) ?_
      refine o_iload_n dX8_removeFor_18 rfl ?_
      have tB := hBi (by omega)
      have tM := hw11 i (by omega)
      refine o_icmp_eq (tgt := 49) dX8_removeFor_19 (by decide) ⟨by omega, by omega⟩ ⟨by omega, by omega⟩ (fun c_19 => ?_) (fun c_19 => ?_)
      · skip
        refine o_iinc dX8_removeFor_49 rfl (by decide) ?_
        refine o_goto (tgt := 4) dX8_removeFor_52 (by decide) ?_
        have hri : r = i := (hps i (by omega)).mp (by have t := hB i (Nat.le_refl i) (by omega); omega)
        refine o_loc [(0, .ref 12), (1, .int (o_I (x : Int))), (2, .int (o_I ((k : Nat) : Int))), (3, .int (o_I ((i + 1 : Nat) : Int)))] rfl (ih (by omega) k g1 ?_ hA (fun j hj1 hj2 => hB j (by omega) hj2) hC)
        revert hk; split <;> split <;> omega
      · skip
        refine o_aload_n dX8_removeFor_22 rfl ?_
        refine o_gf dX8_removeFor_23 fl_X8_9 rfl (by decide) rfl ?_
        refine o_iload_n dX8_removeFor_26 rfl ?_
        refine o_aload_n dX8_removeFor_27 rfl ?_
        refine o_gf dX8_removeFor_28 fl_X8_9 rfl (by decide) rfl ?_
        refine o_iload_n dX8_removeFor_31 rfl ?_
        refine o_ialdn (j := i) dX8_removeFor_32 (by decide) rfl (by decide) rfl (by omega) ?_
        refine o_iaEn (j := k) dX8_removeFor_33 rfl (by decide) (by decide) rfl (by omega) (fun _ => rfl) (by decide) (fun g_33 e_33 => ?_)
        refine o_aload_n dX8_removeFor_34 rfl ?_
        refine o_gf dX8_removeFor_35 fl_X8_15 rfl (by decide) rfl ?_
        refine o_iload_n dX8_removeFor_38 rfl ?_
        refine o_aload_n dX8_removeFor_39 rfl ?_
        refine o_gf dX8_removeFor_40 fl_X8_15 rfl (by decide) rfl ?_
        refine o_iload_n dX8_removeFor_43 rfl ?_
        refine o_ialdn (j := i) dX8_removeFor_44 (by decide) rfl (by decide) rfl (by omega) ?_
        refine o_iaEn (j := k) dX8_removeFor_45 rfl (by decide) (by decide) rfl (by omega) (fun _ => rfl) (by decide) (fun g_45 e_45 => ?_)
        refine o_iinc dX8_removeFor_46 rfl (by decide) ?_
        refine o_iinc dX8_removeFor_49 rfl (by decide) ?_
        refine o_goto (tgt := 4) dX8_removeFor_52 (by decide) ?_
        have hkr := hk
        have hri : r ≠ i := fun q => c_19 (by have := (hps i (by omega)).mpr q; omega)
        refine o_loc [(0, .ref 12), (1, .int (o_I (x : Int))), (2, .int (o_I ((k + 1 : Nat) : Int))), (3, .int (o_I ((i + 1 : Nat) : Int)))] rfl (ih (by omega) (k + 1) g_45 ?_ ?_ ?_ ?_)
        · revert hkr; split <;> split <;> omega
        · intro j hj
          subst e_33 e_45
          by_cases q : j = k
          · subst q
            have hsh : (if r ≠ -1 ∧ r ≤ j then j + 1 else j) = i := by revert hkr; split <;> split <;> omega
            rw [hsh]
            have t := hB i (Nat.le_refl i) (by omega)
            simpa [o_e] using t
          · have t := hA j (by omega)
            simpa [o_e, q] using t
        · intro j hj1 hj2
          subst e_33 e_45
          have t := hB j (by omega) hj2
          have q : j ≠ k := by omega
          simpa [o_e, q] using t
        · intro a ha hb
          subst e_33 e_45
          rw [o_e_n hb, o_e_n ha, hC a ha hb])
  refine o_iconst dX8_removeFor_0 ?_
  refine o_istore_n dX8_removeFor_1 (by decide) ?_
  refine o_iconst dX8_removeFor_2 ?_
  refine o_istore_n dX8_removeFor_3 (by decide) ?_
  exact o_loc _ rfl (key 0 (Nat.zero_le _) 0 g (by split <;> omega) (fun j hj => absurd hj (Nat.not_lt_zero j)) (fun j _ hj => (o_st_q hst).2 j hj) (fun a _ _ => rfl))
