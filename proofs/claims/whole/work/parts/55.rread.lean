/-! the reference reads a text -/
def s_sk (t : Nat → Int) (n : Nat) (w : List Int) (b : Bool) (p : Nat) : Bool × Nat := if b = true then (true, p) else (decide (p_cl t n w p < w.length), p + p_cl t n w p)
def s_nm (t : Nat → Int) (n m : Nat) (b : Bool) (p : Nat) : Bool × Nat × Int := if b = true then (true, p, 0) else (!(p_num t n m p).1, (p_num t n m p).2.1, (p_num t n m p).2.2)
def s_nms (t : Nat → Int) (n : Nat) : List Nat → Bool → Nat → Bool × Nat × List Int
  | [], b, p => (b, p, [])
  | m :: ms, b, p => ((s_nms t n ms (s_nm t n m b p).1 (s_nm t n m b p).2.1).1, (s_nms t n ms (s_nm t n m b p).1 (s_nm t n m b p).2.1).2.1, (s_nm t n m b p).2.2 :: (s_nms t n ms (s_nm t n m b p).1 (s_nm t n m b p).2.1).2.2)
theorem s_nms_t (t : Nat → Int) (n : Nat) : ∀ (ms : List Nat) (p : Nat), (s_nms t n ms true p).1 = true ∧ (s_nms t n ms true p).2.1 = p
  | [], p => ⟨rfl, rfl⟩
  | m :: ms, p => s_nms_t t n ms p
theorem s_nms_p (t : Nat → Int) (n : Nat) : ∀ (ms : List Nat) (p : Nat), (s_nms t n ms false p).1 = (!(p_nums t n ms p).1) ∧ (s_nms t n ms false p).2.1 = (p_nums t n ms p).2.1 ∧ ((p_nums t n ms p).1 = true → (s_nms t n ms false p).2.2 = (p_nums t n ms p).2.2)
  | [], p => ⟨rfl, rfl, fun _ => rfl⟩
  | m :: ms, p => by
    have e : s_nm t n m false p = (!(p_num t n m p).1, (p_num t n m p).2.1, (p_num t n m p).2.2) := rfl
    unfold s_nms p_nums
    rw [e]
    cases h : (p_num t n m p).1 with
    | true =>
      have ih := s_nms_p t n ms (p_num t n m p).2.1
      rw [if_pos rfl]
      refine ⟨ih.1, ih.2.1, fun q => ?_⟩
      show _ :: (s_nms t n ms false _).2.2 = _ :: _
      rw [ih.2.2 q]
    | false =>
      have ih := s_nms_t t n ms (p_num t n m p).2.1
      rw [if_neg (by decide)]
      exact ⟨ih.1, ih.2, fun q => by cases q⟩
theorem s_cmd {t : Nat → Int} {n p : Nat} (h6 : p_sel t n p ≠ 6) : (s_nms t n (p_wd (p_sel t n p)) (s_sk t n (p_W (p_sel t n p)) false p).1 (s_sk t n (p_W (p_sel t n p)) false p).2).1 = (!(p_cmd t n p).1) ∧ (s_nms t n (p_wd (p_sel t n p)) (s_sk t n (p_W (p_sel t n p)) false p).1 (s_sk t n (p_W (p_sel t n p)) false p).2).2.1 = (p_cmd t n p).2.1 ∧ ((p_cmd t n p).1 = true → (p_cmd t n p).2.2 = (p_sel t n p, (s_nms t n (p_wd (p_sel t n p)) (s_sk t n (p_W (p_sel t n p)) false p).1 (s_sk t n (p_W (p_sel t n p)) false p).2).2.2)) := by
  have hle := p_cl_le t n (p_W (p_sel t n p)) p
  have e : s_sk t n (p_W (p_sel t n p)) false p = (decide (p_cl t n (p_W (p_sel t n p)) p < (p_W (p_sel t n p)).length), p_we t n p) := rfl
  unfold p_cmd
  rw [e]
  by_cases h : p_cl t n (p_W (p_sel t n p)) p = (p_W (p_sel t n p)).length
  · rw [if_pos h, if_neg (fun q => h6 q.1), decide_eq_false (by omega)]
    have := s_nms_p t n (p_wd (p_sel t n p)) (p_we t n p)
    exact ⟨this.1, this.2.1, fun q => by rw [this.2.2 q]⟩
  · rw [if_neg h, decide_eq_true (by omega)]
    have := s_nms_t t n (p_wd (p_sel t n p)) (p_we t n p)
    exact ⟨this.1, this.2, fun q => by cases q⟩
theorem p_cl_at (t : Nat → Int) (n : Nat) : ∀ (w : List Int) (p k : Nat), k < w.length → k ≤ p_cl t n w p → (p_tx t n (p + k) = w.getD k 0 ↔ k < p_cl t n w p)
  | [], _, k => fun h => absurd h (Nat.not_lt_zero k)
  | c :: w, p, 0 => fun _ _ => by
    by_cases h : p_tx t n p = c
    · rw [p_cl_1 h]; exact ⟨fun _ => Nat.succ_pos _, fun _ => h⟩
    · rw [p_cl_0 h]; exact ⟨fun q => absurd q h, fun q => absurd q (Nat.not_lt_zero _)⟩
  | c :: w, p, k + 1 => fun h1 h2 => by
    by_cases h : p_tx t n p = c
    · rw [p_cl_1 h] at h2 ⊢
      have := p_cl_at t n w (p + 1) k (by rw [List.length_cons] at h1; omega) (by omega)
      rw [show p + (k + 1) = p + 1 + k by omega]
      exact this.trans ⟨fun q => by omega, fun q => by omega⟩
    · rw [p_cl_0 h] at h2; omega
/-- what the reader sees -/
def o_pv (g : Nat → Nat → Int) (t : Nat → Int) (n p : Nat) (b : Bool) : Prop := g 192 11 = n ∧ (∀ j, j < n → g 199 j = t j) ∧ g 192 12 = p ∧ g 192 13 = o_b (b = true) ∧ p ≤ n
def o_pk (g g' : Nat → Nat → Int) : Prop := (∀ a, a ≠ 192 → g' a = g a) ∧ ∀ j, j ≠ 12 → j ≠ 13 → g' 192 j = g 192 j
theorem o_pk_r {g : Nat → Nat → Int} : o_pk g g := ⟨fun _ _ => rfl, fun _ _ _ => rfl⟩
theorem o_pk_t {g g1 g2 : Nat → Nat → Int} (h1 : o_pk g g1) (h2 : o_pk g1 g2) : o_pk g g2 := ⟨fun a h => (h2.1 a h).trans (h1.1 a h), fun j a b => (h2.2 j a b).trans (h1.2 j a b)⟩
theorem o_pk_e {g g1 g2 : Nat → Nat → Int} {j : Nat} {z : Int} (h1 : o_pk g g1) (e : g2 = o_e g1 192 j z) (hj : j = 12 ∨ j = 13) : o_pk g g2 := o_pk_t h1 ⟨fun a h => by rw [e, o_e_n h], fun i a b => by rw [e, o_e_k (by omega)]⟩
theorem o_pv_12 {g g2 : Nat → Nat → Int} {t : Nat → Int} {n p q : Nat} {b : Bool} {z : Int} (h : o_pv g t n p b) (e : g2 = o_e g 192 12 z) (hz : z = (q : Nat)) (hq : q ≤ n) : o_pv g2 t n q b := by
  rw [e]
  exact ⟨by rw [o_e_k (by decide)]; exact h.1, fun j hj => by rw [o_e_n (by decide)]; exact h.2.1 j hj, by rw [o_e_s]; exact hz, by rw [o_e_k (by decide)]; exact h.2.2.2.1, hq⟩
theorem o_pv_13 {g g2 : Nat → Nat → Int} {t : Nat → Int} {n p : Nat} {b b2 : Bool} {z : Int} (h : o_pv g t n p b) (e : g2 = o_e g 192 13 z) (hz : z = o_b (b2 = true)) : o_pv g2 t n p b2 := by
  rw [e]
  exact ⟨by rw [o_e_k (by decide)]; exact h.1, fun j hj => by rw [o_e_n (by decide)]; exact h.2.1 j hj, by rw [o_e_k (by decide)]; exact h.2.2.1, by rw [o_e_s]; exact hz, h.2.2.2.2⟩
theorem o_bF : o_b (false = true) = 0 := by decide
theorem o_bT : o_b (true = true) = 1 := by decide
set_option maxRecDepth 100000 in
set_option maxHeartbeats 4000000 in
/-- behind(k) -/
theorem ct_X12_behind {l : Launch} (hl : l.stackTraces = false) (d : Nat) (g : Nat → Nat → Int) (t : Nat → Int) (n p : Nat) (hn : n ≤ 60) (ht : ∀ j, j < n → 0 ≤ t j ∧ t j < 65536) (b : Bool) (hv : o_pv g t n p b) (k : Nat) (hk : k ≤ 1) : o_Ct l yX12_behind wX12_behind (d + 1) o_no [.ref 192, .int (o_I (k : Int))] o_N (o_mem g) 0 0 (o_is (some (.int (o_I (p_tx t n (p + k))))) o_N (o_mem g)) := by
  refine o_Ct.ofV hl mX12_behind (by decide +kernel) rfl rfl rfl (Nat.le_of_ble_eq_true rfl) ?_
  obtain ⟨h1, h2, h3, h4, h5⟩ := hv
  refine o_aload_n dX12_behind_0 rfl ?_
  refine o_gf dX12_behind_1 fl_X12_185 rfl (by decide) rfl ?_
  refine o_iload_n dX12_behind_4 rfl ?_
  refine o_iadd dX12_behind_5 ?_
  refine o_aload_n dX12_behind_6 rfl ?_
  refine o_gf dX12_behind_7 fl_X12_182 rfl (by decide) rfl ?_
  refine o_icmp_ge (tgt := 27) dX12_behind_10 (by decide) ⟨by omega, by omega⟩ ⟨by omega, by omega⟩ (fun c_10 => ?_) (fun c_10 => ?_)
  · skip
    refine o_iconst dX12_behind_27 ?_
    refine o_ret1 dX12_behind_28 trivial ?_
    exact ⟨by rw [p_tx_ge (by omega)], rfl, rfl⟩
  · skip
    refine o_aload_n dX12_behind_13 rfl ?_
    refine o_gf dX12_behind_14 fl_X12_29 rfl (by decide) rfl ?_
    refine o_aload_n dX12_behind_17 rfl ?_
    refine o_gf dX12_behind_18 fl_X12_185 rfl (by decide) rfl ?_
    refine o_iload_n dX12_behind_21 rfl ?_
    refine o_iadd dX12_behind_22 ?_
    refine o_caldn (j := p + k) dX12_behind_23 (by decide) rfl (by decide) (by omega) (by omega) ?_
    refine o_goto (tgt := 28) dX12_behind_24 (by decide) ?_
    refine o_ret1 dX12_behind_28 trivial ?_
    exact ⟨by rw [p_tx_lt (by omega), h2 (p + k) (by omega)], rfl, rfl⟩
theorem p_tx_R {t : Nat → Int} {n : Nat} (ht : ∀ j, j < n → 0 ≤ t j ∧ t j < 65536) (p : Nat) : -1 ≤ p_tx t n p ∧ p_tx t n p < 65536 := by
  unfold p_tx
  split
  · rename_i q; have := ht p q; omega
  · decide
set_option maxRecDepth 100000 in
set_option maxHeartbeats 4000000 in
/-- isDigit() -/
theorem ct_X12_isDigit {l : Launch} (hl : l.stackTraces = false) (d : Nat) (g : Nat → Nat → Int) (t : Nat → Int) (n p : Nat) (hn : n ≤ 60) (ht : ∀ j, j < n → 0 ≤ t j ∧ t j < 65536) (b : Bool) (hv : o_pv g t n p b) : o_Ct l yX12_isDigit wX12_isDigit (d + 2) o_no [.ref 192] o_N (o_mem g) 0 0 (o_is (some (.int (o_I (o_b (b = false ∧ p_dg (p_tx t n p)))))) o_N (o_mem g)) := by
  refine o_Ct.ofV hl mX12_isDigit (by decide +kernel) rfl rfl rfl (Nat.le_of_ble_eq_true rfl) ?_
  have hx := p_tx_R ht p
  cases b with
  | true =>
    obtain ⟨h1, h2, h3, h4, h5⟩ := id hv
    rw [o_bT] at h4
    refine o_aload_n dX12_isDigit_0 rfl ?_
    refine o_gf dX12_isDigit_1 fl_X12_192 rfl (by decide) rfl ?_
    refine o_if_ne (tgt := 26) dX12_isDigit_4 (by decide) ⟨by omega, by omega⟩ (fun c_4 => ?_) (fun c_4 => ?_)
    · skip
      refine o_iconst dX12_isDigit_26 ?_
      refine o_ret1 dX12_isDigit_27 (by first | exact o_rb0 | exact o_rb1 | exact o_bn _) ?_
      exact ⟨by rw [o_b0 (fun q => by cases q.1)], rfl, rfl⟩
    · skip
      exfalso
      omega
  | false =>
    obtain ⟨h1, h2, h3, h4, h5⟩ := id hv
    rw [o_bF] at h4
    refine o_aload_n dX12_isDigit_0 rfl ?_
    refine o_gf dX12_isDigit_1 fl_X12_192 rfl (by decide) rfl ?_
    refine o_if_ne (tgt := 26) dX12_isDigit_4 (by decide) ⟨by omega, by omega⟩ (fun c => absurd h4 c) (fun _ => ?_)
    refine o_aload_n dX12_isDigit_7 rfl ?_
    refine o_iconst dX12_isDigit_8 ?_
    refine o_cV _ (ct_X12_behind hl d g t n p hn ht false hv 0 (by decide)) dX12_isDigit_9 ml_X12_196 yw_X12_behind rfl (by decide) (by omega) (by decide) rfl rfl rfl (Nat.le_of_ble_eq_true rfl) ?_
    refine o_bipush dX12_isDigit_12 (by decide) ?_
    refine o_bipush dX12_isDigit_14 (by decide) ?_
    refine o_cS _ (ct_X12_in hl d g (p_tx t n (p + 0)) ⟨by simp only [Nat.add_zero]; omega, by simp only [Nat.add_zero]; omega⟩ 48 ⟨by decide, by decide⟩ 57 ⟨by decide, by decide⟩) dX12_isDigit_16 ml_X12_54 ys_X12_in rfl (by decide) (by omega) rfl (Nat.le_of_ble_eq_true rfl) ?_
    refine o_ifb_eq (tgt := 26) dX12_isDigit_19 (by decide) (fun c_19 => ?_) (fun c_19 => ?_)
    · skip
      refine o_iconst dX12_isDigit_26 ?_
      refine o_ret1 dX12_isDigit_27 (by first | exact o_rb0 | exact o_rb1 | exact o_bn _) ?_
      exact ⟨by rw [o_b0 (fun q => c_19 q.2)], rfl, rfl⟩
    · skip
      refine o_iconst dX12_isDigit_22 ?_
      refine o_goto (tgt := 27) dX12_isDigit_23 (by decide) ?_
      refine o_ret1 dX12_isDigit_27 (by first | exact o_rb0 | exact o_rb1 | exact o_bn _) ?_
      exact ⟨by rw [o_b1 ⟨rfl, c_19⟩], rfl, rfl⟩
set_option maxRecDepth 100000 in
set_option maxHeartbeats 4000000 in
/-- skip(w) -/
theorem ct_X12_skip {l : Launch} (hl : l.stackTraces = false) (d : Nat) (g : Nat → Nat → Int) (t : Nat → Int) (n p : Nat) (hn : n ≤ 60) (ht : ∀ j, j < n → 0 ≤ t j ∧ t j < 65536) (b : Bool) (hv : o_pv g t n p b) (num : Nat) (w : List Int) (hq : o_wt num w) : o_Ct l yX12_skip wX12_skip (d + 6) o_no [.ref 192, .ref (2000000 + num)] o_N (o_mem g) 0 0 (o_mt none (fun g' => o_pv g' t n (s_sk t n w b p).2 (s_sk t n w b p).1 ∧ o_pk g g')) := by
  refine o_Ct.ofV hl mX12_skip (by decide +kernel) rfl rfl rfl (Nat.le_of_ble_eq_true rfl) ?_
  have hw9 := hq.2.2
  have hle := p_cl_le t n w p
  have hin := p_cl_in t n w p (fun c hc => (hq.2.1 c hc).1) hv.2.2.2.2
  have key := o_lp (fun k => ∀ g1, o_pk g g1 → (b = false ∧ k ≤ p_cl t n w p ∧ o_pv g1 t n (p + k) false) ∨ o_pv g1 t n (s_sk t n w b p).2 true ∧ (s_sk t n w b p).1 = true → o_V l mX12_skip (d + 6) o_no (o_mt none (fun g' => o_pv g' t n (s_sk t n w b p).2 (s_sk t n w b p).1 ∧ o_pk g g')) 2 [(0, .ref 192), (1, .ref (2000000 + num)), (2, .int (o_I (k : Int)))] [] o_N (o_mem g1) 0 0) w.length (fun k hk ih g1 f1 hs => by
    rcases hs with ⟨hb, hkc, hv1⟩ | ⟨hv1, hb1⟩
    · obtain ⟨h1, h2, h3, h4, h5⟩ := id hv1
      rw [o_bF] at h4
      refine o_iload_n dX12_skip_2 rfl ?_
      refine o_aload_n dX12_skip_3 rfl ?_
      refine o_cG RJ0 _ (ct_J0_length_8abf5 hl d o_N (o_mem g1) num w hq) dX12_skip_4 ml_X12_188 yw_J0_length_8abf5 rfl (by decide) (by omega) (o_recC (fun Z ad s E => (z_sv hq Z ad s E).1)) rfl (Nat.le_of_ble_eq_true rfl) ?_
      refine o_icmp_ge (tgt := 66) dX12_skip_7 (by decide) ⟨by omega, by omega⟩ ⟨by omega, by omega⟩ (fun c_7 => ?_) (fun c_7 => ?_)
      · skip
        refine o_ret0 dX12_skip_66 trivial ?_
        exact o_mt0 ⟨by rw [show s_sk t n w b p = (false, p + k) by rw [hb]; show (decide _, _) = _; rw [decide_eq_false (by omega), show p_cl t n w p = k by omega]]; exact hv1, f1⟩
      · skip
        have hkw : k < w.length := by omega
        have hat := p_cl_at t n w p k hkw hkc
        have hcx := hq.2.1 _ (o_getD_mem (w := w) hkw)
        have htx := p_tx_R ht (p + k)
        refine o_aload_n dX12_skip_10 rfl ?_
        refine o_gf dX12_skip_11 fl_X12_192 rfl (by decide) rfl ?_
        refine o_if_ne (tgt := 66) dX12_skip_14 (by decide) ⟨by omega, by omega⟩ (fun c => absurd h4 c) (fun _ => ?_)
        refine o_aload_n dX12_skip_17 rfl ?_
        refine o_aload_n dX12_skip_18 rfl ?_
        refine o_iconst dX12_skip_19 ?_
        refine o_cV _ (ct_X12_behind hl (d + 1) g1 t n (p + k) hn ht false hv1 0 (by decide)) dX12_skip_20 ml_X12_196 yw_X12_behind rfl (by decide) (by omega) (by decide) rfl rfl rfl (Nat.le_of_ble_eq_true rfl) ?_
        refine o_aload_n dX12_skip_23 rfl ?_
        refine o_iload_n dX12_skip_24 rfl ?_
        refine o_cG RJ0 _ (ct_J0_charAt_5068e hl d o_N (o_mem g1) num w hq (k : Int) (by omega)) dX12_skip_25 ml_X12_199 yw_J0_charAt_5068e rfl (by decide) (by omega) (o_recC (fun Z ad s E => (z_sv hq Z ad s E).1)) rfl (Nat.le_of_ble_eq_true rfl) ?_
        simp only [Int.toNat_natCast]
        simp only [Nat.add_zero]
        refine o_icmp_eq (tgt := 35) dX12_skip_28 (by decide) ⟨by omega, by omega⟩ ⟨by omega, by omega⟩ (fun c_28 => ?_) (fun c_28 => ?_)
        · skip
          refine o_iconst dX12_skip_35 ?_
          refine o_pmE dX12_skip_36 fp_X12_192 rfl (by decide) (Nat.le_of_ble_eq_true rfl) rfl rfl (fun _ => rfl) (by decide) (fun g_36 e_36 => ?_)
          refine o_aload_n dX12_skip_39 rfl ?_
          refine o_dup dX12_skip_40 rfl ?_
          refine o_gf dX12_skip_41 fl_X12_185 rfl (by decide) rfl ?_
          refine o_aload_n dX12_skip_44 rfl ?_
          refine o_gf dX12_skip_45 fl_X12_192 rfl (by decide) rfl ?_
          rw [show g_36 192 13 = 0 by rw [e_36, o_e_s]]
          refine o_if_eq (tgt := 55) dX12_skip_48 (by decide) ⟨by omega, by omega⟩ (fun _ => ?_) (fun c => absurd rfl c)
          refine o_iconst dX12_skip_55 ?_
          refine o_iadd dX12_skip_56 ?_
          refine o_pmE dX12_skip_57 fp_X12_185 rfl (by decide) (Nat.le_of_ble_eq_true rfl) rfl rfl (fun _ => rfl) (by decide) (fun g_57 e_57 => ?_)
          refine o_iinc dX12_skip_60 rfl (by decide) ?_
          refine o_goto (tgt := 2) dX12_skip_63 (by decide) ?_
          have v12 : g_36 192 12 = (p + k : Nat) := by rw [e_36, o_e_k (by decide)]; exact h3
          exact o_loc [(0, .ref 192), (1, .ref (2000000 + num)), (2, .int (o_I ((k + 1 : Nat) : Int)))] rfl (ih (by omega) g_57 (o_pk_e (o_pk_e f1 e_36 (Or.inr rfl)) e_57 (Or.inl rfl)) (Or.inl ⟨hb, by have := hat.mp c_28; omega, o_pv_12 (o_pv_13 hv1 e_36 o_bF.symm) e_57 (by omega) (by omega)⟩))
        · skip
          refine o_iconst dX12_skip_31 ?_
          refine o_goto (tgt := 36) dX12_skip_32 (by decide) ?_
          refine o_pmE dX12_skip_36 fp_X12_192 rfl (by decide) (Nat.le_of_ble_eq_true rfl) rfl rfl (fun _ => rfl) (by decide) (fun g_36 e_36 => ?_)
          refine o_aload_n dX12_skip_39 rfl ?_
          refine o_dup dX12_skip_40 rfl ?_
          refine o_gf dX12_skip_41 fl_X12_185 rfl (by decide) rfl ?_
          refine o_aload_n dX12_skip_44 rfl ?_
          refine o_gf dX12_skip_45 fl_X12_192 rfl (by decide) rfl ?_
          rw [show g_36 192 13 = 1 by rw [e_36, o_e_s]]
          refine o_if_eq (tgt := 55) dX12_skip_48 (by decide) ⟨by omega, by omega⟩ (fun c => absurd c (by decide)) (fun _ => ?_)
          refine o_iconst dX12_skip_51 ?_
          refine o_goto (tgt := 56) dX12_skip_52 (by decide) ?_
          refine o_iadd dX12_skip_56 ?_
          refine o_pmE dX12_skip_57 fp_X12_185 rfl (by decide) (Nat.le_of_ble_eq_true rfl) rfl rfl (fun _ => rfl) (by decide) (fun g_57 e_57 => ?_)
          refine o_iinc dX12_skip_60 rfl (by decide) ?_
          refine o_goto (tgt := 2) dX12_skip_63 (by decide) ?_
          have v12 : g_36 192 12 = (p + k : Nat) := by rw [e_36, o_e_k (by decide)]; exact h3
          have hck : p_cl t n w p = k := by
            rcases Nat.lt_or_ge k (p_cl t n w p) with q | q
            · exact absurd (hat.mpr q) c_28
            · omega
          have hsk : s_sk t n w b p = (true, p + k) := by
            rw [hb]
            show (decide _, _) = _
            rw [decide_eq_true (by omega), hck]
          exact o_loc [(0, .ref 192), (1, .ref (2000000 + num)), (2, .int (o_I ((k + 1 : Nat) : Int)))] rfl (ih (by omega) g_57 (o_pk_e (o_pk_e f1 e_36 (Or.inr rfl)) e_57 (Or.inl rfl)) (Or.inr ⟨by rw [hsk]; exact o_pv_12 (o_pv_13 hv1 e_36 o_bT.symm) e_57 (by omega) (by omega), by rw [hsk]⟩))
    · obtain ⟨h1, h2, h3, h4, h5⟩ := id hv1
      rw [o_bT] at h4
      refine o_iload_n dX12_skip_2 rfl ?_
      refine o_aload_n dX12_skip_3 rfl ?_
      refine o_cG RJ0 _ (ct_J0_length_8abf5 hl d o_N (o_mem g1) num w hq) dX12_skip_4 ml_X12_188 yw_J0_length_8abf5 rfl (by decide) (by omega) (o_recC (fun Z ad s E => (z_sv hq Z ad s E).1)) rfl (Nat.le_of_ble_eq_true rfl) ?_
      refine o_icmp_ge (tgt := 66) dX12_skip_7 (by decide) ⟨by omega, by omega⟩ ⟨by omega, by omega⟩ (fun c_7 => ?_) (fun c_7 => ?_)
      · skip
        refine o_ret0 dX12_skip_66 trivial ?_
        exact o_mt0 ⟨by rw [hb1]; exact hv1, f1⟩
      · skip
        refine o_aload_n dX12_skip_10 rfl ?_
        refine o_gf dX12_skip_11 fl_X12_192 rfl (by decide) rfl ?_
        have h4 : g1 192 13 = 1 := h4
        refine o_if_ne (tgt := 66) dX12_skip_14 (by decide) ⟨by omega, by omega⟩ (fun c_14 => ?_) (fun c_14 => ?_)
        · skip
          refine o_ret0 dX12_skip_66 trivial ?_
          exact o_mt0 ⟨by rw [hb1]; exact hv1, f1⟩
        · skip
          exfalso
          omega)
  refine o_iconst dX12_skip_0 ?_
  refine o_istore_n dX12_skip_1 (by decide) ?_
  refine o_loc [(0, .ref 192), (1, .ref (2000000 + num)), (2, .int (o_I ((0 : Nat) : Int)))] rfl (key 0 (Nat.zero_le _) g o_pk_r ?_)
  cases b with
  | false => exact Or.inl ⟨rfl, Nat.zero_le _, hv⟩
  | true => exact Or.inr ⟨hv, rfl⟩
theorem o_wt25 : o_wt 25 [32] := ⟨by decide, by decide, by decide⟩
theorem p_cl_one {t : Nat → Int} {n p : Nat} : p_cl t n [32] p = if p_tx t n p = 32 then 1 else 0 := by
  by_cases h : p_tx t n p = 32
  · rw [p_cl_1 h, if_pos h]; rfl
  · rw [p_cl_0 h, if_neg h]
set_option maxRecDepth 100000 in
set_option maxHeartbeats 4000000 in
/-- readNumber(m) -/
theorem ct_X12_readNumber {l : Launch} (hl : l.stackTraces = false) (d : Nat) (g : Nat → Nat → Int) (t : Nat → Int) (n p : Nat) (hn : n ≤ 60) (ht : ∀ j, j < n → 0 ≤ t j ∧ t j < 65536) (b : Bool) (hv : o_pv g t n p b) (m : Nat) (hm : 1 ≤ m ∧ m ≤ 3) : o_Ct l yX12_readNumber wX12_readNumber (d + 8) o_no [.ref 192, .int (o_I (m : Int))] o_N (o_mem g) 0 0 (o_mt (some (.int (o_I (s_nm t n m b p).2.2))) (fun g' => o_pv g' t n (s_nm t n m b p).2.1 (s_nm t n m b p).1 ∧ o_pk g g')) := by
  refine o_Ct.ofV hl mX12_readNumber (by decide +kernel) rfl rfl rfl (Nat.le_of_ble_eq_true rfl) ?_
  have hp10 : ∀ k : Nat, k ≤ 3 → (10 : Int) ^ k ≤ 1000 := fun k hk => by
    rcases (by omega : k = 0 ∨ k = 1 ∨ k = 2 ∨ k = 3) with rfl | rfl | rfl | rfl <;> decide
  have key := o_lp (fun k => ∀ g1 (A : Int) (q : Nat), o_pk g g1 → o_pv g1 t n q false → 0 ≤ A → A + 1 ≤ 10 ^ k → s_nm t n m b p = (false, p_ds t n (m - k) q A) → o_V l mX12_readNumber (d + 8) o_no (o_mt (some (.int (o_I (s_nm t n m b p).2.2))) (fun g' => o_pv g' t n (s_nm t n m b p).2.1 (s_nm t n m b p).1 ∧ o_pk g g')) 33 [(0, .ref 192), (1, .int (o_I (m : Int))), (2, .int (o_I A)), (3, .int (o_I (k : Int)))] [] o_N (o_mem g1) 0 0) m (fun k hk ih g1 A q f1 hv1 hA0 hA1 hF => by
    obtain ⟨h1, h2, h3, h4, h5⟩ := id hv1
    rw [o_bF] at h4
    have hp := hp10 k (by omega)
    refine o_iload_n dX12_readNumber_33 rfl ?_
    refine o_iload_n dX12_readNumber_34 rfl ?_
    refine o_icmp_ge (tgt := 79) dX12_readNumber_35 (by decide) ⟨by omega, by omega⟩ ⟨by omega, by omega⟩ (fun c_35 => ?_) (fun c_35 => ?_)
    · skip
      refine o_iload_n dX12_readNumber_79 rfl ?_
      refine o_ret1 dX12_readNumber_80 trivial ?_
      have hmk : m - k = 0 := by omega
      rw [hmk] at hF
      rw [hF]
      exact o_mtI rfl ⟨hv1, f1⟩
    · skip
      refine o_aload_n dX12_readNumber_38 rfl ?_
      refine o_cV _ (ct_X12_isDigit hl (d + 5) g1 t n q hn ht false hv1) dX12_readNumber_39 ml_X12_209 yw_X12_isDigit rfl (by decide) (by omega) (by decide) rfl rfl rfl (Nat.le_of_ble_eq_true rfl) ?_
      refine o_ifb_eq (tgt := 79) dX12_readNumber_42 (by decide) (fun c_42 => ?_) (fun c_42 => ?_)
      · skip
        refine o_iload_n dX12_readNumber_79 rfl ?_
        refine o_ret1 dX12_readNumber_80 trivial ?_
        have hnd : ¬ p_dg (p_tx t n q) := fun z => c_42 ⟨rfl, z⟩
        obtain ⟨m1, hm1⟩ : ∃ m1, m - k = m1 + 1 := ⟨m - k - 1, by omega⟩
        rw [hm1] at hF
        rw [hF]
        have e9 : p_ds t n (m1 + 1) q A = (q, A) := if_neg hnd
        rw [e9]
        exact o_mtI rfl ⟨hv1, f1⟩
      · skip
        refine o_bipush dX12_readNumber_45 (by decide) ?_
        refine o_iload_n dX12_readNumber_47 rfl ?_
        refine o_imul dX12_readNumber_48 ?_
        obtain ⟨m1, hm1⟩ : ∃ m1, m - k = m1 + 1 := ⟨m - k - 1, by omega⟩
        have hq9 : q < n := p_tx_in (t := t) (by have := c_42.2; omega)
        have hF2 : s_nm t n m b p = (false, p_ds t n m1 (q + 1) (A * 10 + (p_tx t n q - 48))) := by
          rw [hF, hm1]
          show (false, (if p_dg (p_tx t n q) then _ else _ : Nat × Int)) = _
          rw [if_pos c_42.2]
        have hdg := c_42.2
        rw [p_tx_lt hq9] at hF2 hdg
        have htq := h2 q hq9
        refine o_aload_n dX12_readNumber_49 rfl ?_
        refine o_gf dX12_readNumber_50 fl_X12_29 rfl (by decide) rfl ?_
        refine o_aload_n dX12_readNumber_53 rfl ?_
        refine o_gf dX12_readNumber_54 fl_X12_185 rfl (by decide) rfl ?_
        refine o_caldn (j := q) dX12_readNumber_57 (by decide) rfl (by decide) (by omega) (by omega) ?_
        refine o_iadd dX12_readNumber_58 ?_
        refine o_bipush dX12_readNumber_59 (by decide) ?_
        refine o_isub dX12_readNumber_61 ?_
        refine o_istore_n dX12_readNumber_62 (by decide) ?_
        refine o_aload_n dX12_readNumber_63 rfl ?_
        refine o_dup dX12_readNumber_64 rfl ?_
        refine o_gf dX12_readNumber_65 fl_X12_185 rfl (by decide) rfl ?_
        refine o_iconst dX12_readNumber_68 ?_
        refine o_iadd dX12_readNumber_69 ?_
        refine o_pmE dX12_readNumber_70 fp_X12_185 rfl (by decide) (Nat.le_of_ble_eq_true rfl) rfl rfl (fun _ => rfl) (by decide) (fun g_70 e_70 => ?_)
        refine o_iinc dX12_readNumber_73 rfl (by decide) ?_
        refine o_goto (tgt := 33) dX12_readNumber_76 (by decide) ?_
        exact o_loc [(0, .ref 192), (1, .int (o_I (m : Int))), (2, .int (o_I (A * 10 + (t q - 48)))), (3, .int (o_I ((k + 1 : Nat) : Int)))] (by rw [show (10 * A + g1 199 q - 48 : Int) = A * 10 + (t q - 48) by omega]; rfl) (ih (by omega) g_70 _ (q + 1) (o_pk_e f1 e_70 (Or.inl rfl)) (o_pv_12 hv1 e_70 (by omega) (by omega)) (by omega) (by rw [Int.pow_succ]; omega) (by rw [hF2, show m - (k + 1) = m1 by omega])))
  have keyW : ∀ g1 (q : Nat), o_pk g g1 → o_pv g1 t n q true → s_nm t n m b p = (true, q, 0) → o_V l mX12_readNumber (d + 8) o_no (o_mt (some (.int (o_I (s_nm t n m b p).2.2))) (fun g' => o_pv g' t n (s_nm t n m b p).2.1 (s_nm t n m b p).1 ∧ o_pk g g')) 29 [(0, .ref 192), (1, .int (o_I (m : Int)))] [] o_N (o_mem g1) 0 0 := fun g1 q f1 hv1 hF => by
    refine o_iconst dX12_readNumber_29 ?_
    refine o_istore_n dX12_readNumber_30 (by decide) ?_
    refine o_iconst dX12_readNumber_31 ?_
    refine o_istore_n dX12_readNumber_32 (by decide) ?_
    refine o_iload_n dX12_readNumber_33 rfl ?_
    refine o_iload_n dX12_readNumber_34 rfl ?_
    refine o_icmp_ge (tgt := 79) dX12_readNumber_35 (by decide) ⟨by omega, by omega⟩ ⟨by omega, by omega⟩ (fun c_35 => ?_) (fun c_35 => ?_)
    · skip
      refine o_iload_n dX12_readNumber_79 rfl ?_
      refine o_ret1 dX12_readNumber_80 trivial ?_
      rw [hF]
      exact o_mtI rfl ⟨hv1, f1⟩
    · skip
      refine o_aload_n dX12_readNumber_38 rfl ?_
      refine o_cV _ (ct_X12_isDigit hl (d + 5) g1 t n q hn ht true hv1) dX12_readNumber_39 ml_X12_209 yw_X12_isDigit rfl (by decide) (by omega) (by decide) rfl rfl rfl (Nat.le_of_ble_eq_true rfl) ?_
      refine o_ifb_eq (tgt := 79) dX12_readNumber_42 (by decide) (fun c_42 => ?_) (fun c_42 => ?_)
      · skip
        refine o_iload_n dX12_readNumber_79 rfl ?_
        refine o_ret1 dX12_readNumber_80 trivial ?_
        rw [hF]
        exact o_mtI rfl ⟨hv1, f1⟩
      · skip
        exact absurd c_42.1 (by decide)
  have keyD : ∀ g1 (q : Nat), o_pk g g1 → o_pv g1 t n q false → s_nm t n m b p = (false, p_ds t n m q 0) → o_V l mX12_readNumber (d + 8) o_no (o_mt (some (.int (o_I (s_nm t n m b p).2.2))) (fun g' => o_pv g' t n (s_nm t n m b p).2.1 (s_nm t n m b p).1 ∧ o_pk g g')) 29 [(0, .ref 192), (1, .int (o_I (m : Int)))] [] o_N (o_mem g1) 0 0 := fun g1 q f1 hv1 hF => by
    refine o_iconst dX12_readNumber_29 ?_
    refine o_istore_n dX12_readNumber_30 (by decide) ?_
    refine o_iconst dX12_readNumber_31 ?_
    refine o_istore_n dX12_readNumber_32 (by decide) ?_
    exact o_loc [(0, .ref 192), (1, .int (o_I (m : Int))), (2, .int (o_I 0)), (3, .int (o_I ((0 : Nat) : Int)))] rfl (key 0 (Nat.zero_le _) g1 0 q f1 hv1 (by decide) (by decide) hF)
  refine o_aload_n dX12_readNumber_0 rfl ?_
  refine o_ldcS (num := 25) dX12_readNumber_1 (show (RX12, 203, " ", 25) ∈ o_str by decide) ?_
  refine o_cVm _ (ct_X12_skip hl (d + 1) g t n p hn ht b hv 25 [32] o_wt25) dX12_readNumber_3 ml_X12_205 yw_X12_skip rfl (by decide) (by omega) (by decide) rfl rfl rfl (Nat.le_of_ble_eq_true rfl) (fun g_3 q_3 => ?_)
  obtain ⟨hv3, f3⟩ := q_3
  rcases hsk : s_sk t n [32] b p with ⟨b1, p1⟩
  rw [hsk] at hv3
  have hb1 : b1 = true → s_nm t n m b p = (true, p1, 0) := fun q => by
    unfold s_sk at hsk
    unfold s_nm
    cases b with
    | true => rw [if_pos rfl] at hsk ⊢; cases hsk; rfl
    | false =>
      rw [if_neg (by decide), p_cl_one] at hsk
      rw [if_neg (by decide)]
      unfold p_num
      by_cases z : p_tx t n p = 32
      · rw [if_pos z] at hsk; cases hsk; cases q
      · rw [if_neg z] at hsk ⊢; cases hsk; rfl
  have hb0 : b1 = false → b = false ∧ p_tx t n p = 32 ∧ p1 = p + 1 := fun q => by
    unfold s_sk at hsk
    cases b with
    | true => rw [if_pos rfl] at hsk; cases hsk; cases q
    | false =>
      rw [if_neg (by decide), p_cl_one] at hsk
      by_cases z : p_tx t n p = 32
      · rw [if_pos z] at hsk; cases hsk; exact ⟨rfl, z, rfl⟩
      · rw [if_neg z] at hsk; cases hsk; cases q
  cases b1 with
  | true =>
    have h4 : g_3 192 13 = 1 := hv3.2.2.2.1.trans o_bT
    refine o_aload_n dX12_readNumber_6 rfl ?_
    refine o_aload_n dX12_readNumber_7 rfl ?_
    refine o_gf dX12_readNumber_8 fl_X12_192 rfl (by decide) rfl ?_
    refine o_if_ne (tgt := 21) dX12_readNumber_11 (by decide) ⟨by omega, by omega⟩ (fun c_11 => ?_) (fun c_11 => ?_)
    · skip
      refine o_iconst dX12_readNumber_21 ?_
      refine o_goto (tgt := 26) dX12_readNumber_22 (by decide) ?_
      refine o_pmE dX12_readNumber_26 fp_X12_192 rfl (by decide) (Nat.le_of_ble_eq_true rfl) rfl rfl (fun _ => rfl) (by decide) (fun g_26 e_26 => ?_)
      exact o_loc _ rfl (keyW g_26 p1 (o_pk_e f3 e_26 (Or.inr rfl)) (o_pv_13 hv3 e_26 o_bT.symm) (hb1 rfl))
    · skip
      exfalso
      omega
  | false =>
    have h4 : g_3 192 13 = 0 := hv3.2.2.2.1.trans o_bF
    refine o_aload_n dX12_readNumber_6 rfl ?_
    refine o_aload_n dX12_readNumber_7 rfl ?_
    refine o_gf dX12_readNumber_8 fl_X12_192 rfl (by decide) rfl ?_
    refine o_if_ne (tgt := 21) dX12_readNumber_11 (by decide) ⟨by omega, by omega⟩ (fun c => absurd h4 c) (fun _ => ?_)
    refine o_aload_n dX12_readNumber_14 rfl ?_
    refine o_cV _ (ct_X12_isDigit hl (d + 5) g_3 t n p1 hn ht false hv3) dX12_readNumber_15 ml_X12_209 yw_X12_isDigit rfl (by decide) (by omega) (by decide) rfl rfl rfl (Nat.le_of_ble_eq_true rfl) ?_
    refine o_ifb_ne (tgt := 25) dX12_readNumber_18 (by decide) (fun c_18 => ?_) (fun c_18 => ?_)
    · skip
      refine o_iconst dX12_readNumber_25 ?_
      refine o_pmE dX12_readNumber_26 fp_X12_192 rfl (by decide) (Nat.le_of_ble_eq_true rfl) rfl rfl (fun _ => rfl) (by decide) (fun g_26 e_26 => ?_)
      obtain ⟨z1, z2, z3⟩ := hb0 rfl
      subst z3
      exact o_loc _ rfl (keyD g_26 (p + 1) (o_pk_e f3 e_26 (Or.inr rfl)) (o_pv_13 hv3 e_26 o_bF.symm) (by
        unfold s_nm p_num
        rw [z1, if_neg (by decide), if_pos z2, if_pos c_18.2]
        rfl))
    · skip
      refine o_iconst dX12_readNumber_21 ?_
      refine o_goto (tgt := 26) dX12_readNumber_22 (by decide) ?_
      refine o_pmE dX12_readNumber_26 fp_X12_192 rfl (by decide) (Nat.le_of_ble_eq_true rfl) rfl rfl (fun _ => rfl) (by decide) (fun g_26 e_26 => ?_)
      obtain ⟨z1, z2, z3⟩ := hb0 rfl
      subst z3
      exact o_loc _ rfl (keyW g_26 (p + 1) (o_pk_e f3 e_26 (Or.inr rfl)) (o_pv_13 hv3 e_26 o_bT.symm) (by
        unfold s_nm p_num
        rw [z1, if_neg (by decide), if_pos z2, if_neg (fun z => c_18 ⟨rfl, z⟩)]
        rfl))
