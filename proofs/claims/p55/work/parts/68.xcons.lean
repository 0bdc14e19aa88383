/-! the office is consistent -/
theorem sm_pick (c x : Int) (n : Nat) : o_sm (fun s => if x = (s : Int) + 1 then c else 0) n = if 0 < x ∧ x ≤ n then c else 0 := by
  induction n with
  | zero => rw [if_neg (by omega)]; rfl
  | succ n ih =>
    show o_sm (fun s => if x = (s : Int) + 1 then c else 0) n + (if x = (n : Int) + 1 then c else 0) = _
    rw [ih]
    by_cases h : x = (n : Int) + 1
    · rw [if_pos h, if_neg (by omega), if_pos (by omega)]; omega
    · rw [if_neg h]
      by_cases h2 : 0 < x ∧ x ≤ (n : Int)
      · rw [if_pos h2, if_pos (by omega)]; omega
      · rw [if_neg h2, if_neg (by omega)]; omega
theorem d_u_sm (M : Nat → Nat → Int) (n : Nat) : d_u M n = d_u M 0 - o_sm (fun s => d_q M s) n := by
  induction n with
  | zero => show d_u M 0 = d_u M 0 - 0; omega
  | succ n ih =>
    show d_u M n - d_q M n = d_u M 0 - (o_sm (fun s => d_q M s) n + d_q M n)
    omega
theorem d_of_sm {M : Nat → Nat → Int} (h : o_wk M) : o_sm (fun s => d_of M s) (M 0 0).toNat = d_all M := by
  unfold d_of d_all
  rw [sm_swap (fun s i => if M 5 i = ((s : Nat) : Int) + 1 then M 4 i else 0)]
  refine sm_eq (fun i hi => ?_)
  rw [sm_pick]
  have u := h.2.1.2.2.2.2 i (by omega)
  by_cases h0 : 0 < M 5 i
  · rw [if_pos h0, if_pos (by omega)]
  · rw [if_neg h0, if_neg (by omega)]
theorem d_cnt {M : Nat → Nat → Int} (m : Nat) (hm : (m : Int) ≤ M 0 0) : o_sm (fun s => o_b (d_rk M s < (m : Int))) (M 0 0).toNat = m := by
  have e : o_sm (fun s => o_b (d_rk M s < (m : Int))) (M 0 0).toNat = o_sm (fun s => o_sm (fun r => o_b (d_rk M s = ((r : Nat) : Int))) m) (M 0 0).toNat := sm_eq (fun s hs => (sm_one (d_rk_top (by omega)).1).symm)
  rw [e, sm_swap (fun s r => o_b (d_rk M s = ((r : Nat) : Int)))]
  rw [show o_sm (fun r => o_sm (fun s => o_b (d_rk M s = ((r : Nat) : Int))) (M 0 0).toNat) m = o_sm (fun _ => 1) m from sm_eq (fun r hr => ?_), sm_const]
  obtain ⟨j, hj, hk⟩ := d_rk_ex (M := M) (r := (r : Int)) (by omega) (by omega)
  have a := sm_le1 (p := fun s => d_rk M s = (r : Int)) (n := (M 0 0).toNat) (fun x y hx hy p q => d_rk_inj (by omega) (by omega) (p.trans q.symm))
  have b := o_sm_pos (f := fun s => o_b (d_rk M s = (r : Int))) (fun _ => o_b_nn _) (n := (M 0 0).toNat) (i := j) (by omega) (by show 0 < o_b _; rw [o_b1 hk]; decide)
  omega
theorem d_sh_sm {M : Nat → Nat → Int} (h : o_wk M) : o_sm (fun s => d_sh M s) (M 0 0).toNat = if 0 < d_all M then M 0 2 else 0 := by
  have hD := d_all_R h.2.1
  have hN := h.1.1
  have hsum : o_sm (fun s => d_sh M s) (M 0 0).toNat = o_sm (fun s => d_q M s) (M 0 0).toNat + o_sm (fun s => o_b (d_rk M s < d_u M (M 0 0).toNat)) (M 0 0).toNat := sm_add (fun s => d_q M s) (fun s => o_b (d_rk M s < d_u M (M 0 0).toNat)) _
  have hu := d_u_sm M (M 0 0).toNat
  by_cases h0 : 0 < d_all M
  · rw [if_pos h0]
    have hu0 : d_u M 0 = M 0 2 := if_pos h0
    have er : ∀ s : Nat, d_r M s = M 0 2 * d_of M s + (-(d_all M)) * d_q M s := by
      intro s
      have e1 : d_r M s = M 0 2 * d_of M s % d_all M := if_pos h0
      have e2 : d_q M s = M 0 2 * d_of M s / d_all M := if_pos h0
      rw [e1, e2, Int.emod_def, Int.neg_mul]
      omega
    have sr : o_sm (fun s => d_r M s) (M 0 0).toNat = M 0 2 * d_all M + (-(d_all M)) * o_sm (fun s => d_q M s) (M 0 0).toNat := by
      rw [show o_sm (fun s => d_r M s) (M 0 0).toNat = o_sm (fun s => M 0 2 * d_of M s + (-(d_all M)) * d_q M s) (M 0 0).toNat from sm_eq (fun s _ => er s), sm_add, sm_mul, sm_mul, d_of_sm h]
    have su : o_sm (fun s => d_r M s) (M 0 0).toNat = d_all M * d_u M (M 0 0).toNat := by
      rw [sr, hu, hu0, Int.mul_sub, Int.neg_mul, Int.mul_comm (M 0 2)]
      omega
    have rR : ∀ s, 0 ≤ d_r M s ∧ d_r M s ≤ d_all M := by
      intro s
      have e1 : d_r M s = M 0 2 * d_of M s % d_all M := if_pos h0
      rw [e1]
      have a := Int.emod_nonneg (M 0 2 * d_of M s) (show d_all M ≠ 0 by omega)
      have b := Int.emod_lt_of_pos (M 0 2 * d_of M s) h0
      omega
    have bd := o_sm_le (f := fun s => d_r M s) (n := (M 0 0).toNat) (m := d_all M) (fun s _ => rR s)
    rw [su] at bd
    have u0 : 0 ≤ d_u M (M 0 0).toNat := by
      by_cases z : 0 ≤ d_u M (M 0 0).toNat
      · exact z
      · exfalso
        have := Int.mul_neg_of_pos_of_neg h0 (show d_u M (M 0 0).toNat < 0 by omega)
        omega
    have u1 : d_u M (M 0 0).toNat ≤ M 0 0 := by
      have : d_all M * d_u M (M 0 0).toNat ≤ d_all M * M 0 0 := by
        rw [Int.mul_comm (d_all M) (M 0 0)]
        have e : (((M 0 0).toNat : Nat) : Int) = M 0 0 := by omega
        rw [e] at bd
        exact bd.2
      exact Int.le_of_mul_le_mul_left this h0
    obtain ⟨m, hm⟩ : ∃ m : Nat, d_u M (M 0 0).toNat = (m : Int) := ⟨(d_u M (M 0 0).toNat).toNat, by omega⟩
    have c := d_cnt (M := M) m (by omega)
    rw [hm] at hsum
    omega
  · rw [if_neg h0]
    have hu0 : d_u M 0 = 0 := if_neg h0
    have hq : o_sm (fun s => d_q M s) (M 0 0).toNat = 0 := by
      rw [show o_sm (fun s => d_q M s) (M 0 0).toNat = o_sm (fun _ => 0) (M 0 0).toNat from sm_eq (fun s _ => if_neg h0), sm_zero]
    have hb : o_sm (fun s => o_b (d_rk M s < d_u M (M 0 0).toNat)) (M 0 0).toNat = 0 := by
      rw [show o_sm (fun s => o_b (d_rk M s < d_u M (M 0 0).toNat)) (M 0 0).toNat = o_sm (fun _ => 0) (M 0 0).toNat from sm_eq (fun s hs => o_b0 (by have := (d_rk_top (M := M) (j := s) (by omega)).1; omega)), sm_zero]
    omega
set_option maxRecDepth 100000 in
set_option maxHeartbeats 4000000 in
/-- coinsAddUp() -/
theorem ct_X11_coinsAddUp {l : Launch} (hl : l.stackTraces = false) (d : Nat) (g : Nat → Nat → Int) (M : Nat → Nat → Int) (hst : o_st g M) (hwf : o_wf M) : o_Ct l yX11_coinsAddUp wX11_coinsAddUp (d + 2) o_no [.ref 0] o_N (o_mem g) 0 0 (o_is (some (.int (o_I 1))) o_N (o_mem g)) := by
  refine o_Ct.ofV hl mX11_coinsAddUp (by decide +kernel) rfl rfl rfl (Nat.le_of_ble_eq_true rfl) ?_
  obtain ⟨hrs, hrl, hrq, hg3, hg4, hg5, hg6⟩ := id hst
  obtain ⟨⟨hws, hwl, hwq, hwo, hwle, hwrq, hwrd⟩, hwh, hwc, hwe⟩ := id hwf
  have hs0 := hrs.1
  have hl0 := hrl.1
  have hq0 := hrq.1
  have hs1 := o_rs2 hrs
  have hl1 := o_rl6 hrl
  have hq1 := o_rq12 hrq
  obtain ⟨hw1, hw2, hw3⟩ := id hws
  obtain ⟨hw4, hw5, hw6, hw7, hw8⟩ := id hwl
  obtain ⟨hw9, hw10, hw11⟩ := id hwq
  refine o_aload_n dX11_coinsAddUp_0 rfl ?_
  refine o_gf dX11_coinsAddUp_1 fl_X11_12 rfl (by decide) rfl ?_
  refine o_gf dX11_coinsAddUp_4 fl_X11_80 rfl (by decide) rfl ?_
  refine o_cV _ (ct_X9_sumOfCoins hl d g M hrs hws) dX11_coinsAddUp_7 ml_X11_253 yw_X9_sumOfCoins rfl (by decide) (by omega) (by decide) rfl rfl rfl (Nat.le_of_ble_eq_true rfl) ?_
  refine o_aload_n dX11_coinsAddUp_10 rfl ?_
  refine o_gf dX11_coinsAddUp_11 fl_X11_12 rfl (by decide) rfl ?_
  refine o_gf dX11_coinsAddUp_14 fl_X11_239 rfl (by decide) rfl ?_
  refine o_iadd dX11_coinsAddUp_17 ?_
  refine o_bipush dX11_coinsAddUp_18 (by decide) ?_
  refine o_aload_n dX11_coinsAddUp_20 rfl ?_
  refine o_gf dX11_coinsAddUp_21 fl_X11_12 rfl (by decide) rfl ?_
  refine o_gf dX11_coinsAddUp_24 fl_X11_80 rfl (by decide) rfl ?_
  refine o_gf dX11_coinsAddUp_27 fl_X11_145 rfl (by decide) rfl ?_
  refine o_imul dX11_coinsAddUp_30 ?_
  rw [hg5, hs0]
  refine o_icmp_ne (tgt := 38) dX11_coinsAddUp_31 (by decide) ⟨by omega, by omega⟩ ⟨by omega, by omega⟩ (fun c_31 => ?_) (fun c_31 => ?_)
  · skip
    exfalso; omega
  · skip
    refine o_iconst dX11_coinsAddUp_34 ?_
    refine o_goto (tgt := 39) dX11_coinsAddUp_35 (by decide) ?_
    refine o_ret1 dX11_coinsAddUp_39 (by first | exact o_rb0 | exact o_rb1 | exact o_bn _) ?_
    exact ⟨rfl, rfl, rfl⟩
theorem d_sh_R {M : Nat → Nat → Int} (h : o_wk M) (s : Nat) : 0 ≤ d_sh M s ∧ d_sh M s ≤ 12001 := by
  have a := d_q_R h s
  have b := o_b_nn (d_rk M s < d_u M (M 0 0).toNat)
  have c : o_b (d_rk M s < d_u M (M 0 0).toNat) ≤ 1 := by unfold o_b; split <;> omega
  unfold d_sh
  omega
set_option maxRecDepth 100000 in
set_option maxHeartbeats 4000000 in
/-- sharesAgree() -/
theorem ct_X11_sharesAgree {l : Launch} (hl : l.stackTraces = false) (d : Nat) (g : Nat → Nat → Int) (M : Nat → Nat → Int) (hst : o_st g M) (hwk : o_wk M) : o_Ct l yX11_sharesAgree wX11_sharesAgree (d + 5) o_no [.ref 0] o_N (o_mem g) 0 0 (o_mt (some (.int (o_I 1))) (fun g' => o_fr o_dc g g')) := by
  refine o_Ct.ofV hl mX11_sharesAgree (by decide +kernel) rfl rfl rfl (Nat.le_of_ble_eq_true rfl) ?_
  obtain ⟨hrs, hrl, hrq, hg3, hg4, hg5, hg6⟩ := id hst
  obtain ⟨hws, hwl, hwq, hwo, hwle, hwrq, hwrd⟩ := id hwk
  have hs0 := hrs.1
  have hl0 := hrl.1
  have hq0 := hrq.1
  have hs1 := o_rs2 hrs
  have hl1 := o_rl6 hrl
  have hq1 := o_rq12 hrq
  obtain ⟨hw1, hw2, hw3⟩ := id hws
  obtain ⟨hw4, hw5, hw6, hw7, hw8⟩ := id hwl
  obtain ⟨hw9, hw10, hw11⟩ := id hwq
  have key := o_lp (fun i => ∀ g1, o_fr o_dc g g1 → o_V l mX11_sharesAgree (d + 5) o_no (o_mt (some (.int (o_I 1))) (fun g' => o_fr o_dc g g')) 2 [(0, .ref 0), (1, .int (o_I (i : Int)))] [] o_N (o_mem g1) 0 0) (M 0 0).toNat (fun i hi ih g1 f1 => by
    have h1 := o_st_c hst (fun a a1 a2 => f1 a (fun z => by have z : 159 ≤ a ∧ a ≤ 162 := z; omega))
    have hs9 : g1 2 0 = M 0 0 := h1.1.1
    have hl9 : g1 6 0 = M 0 1 := h1.2.1.1
    refine o_iload_n dX11_sharesAgree_2 rfl ?_
    refine o_aload_n dX11_sharesAgree_3 rfl ?_
    refine o_gf dX11_sharesAgree_4 fl_X11_12 rfl (by decide) rfl ?_
    refine o_gf dX11_sharesAgree_7 fl_X11_80 rfl (by decide) rfl ?_
    refine o_gf dX11_sharesAgree_10 fl_X11_145 rfl (by decide) rfl ?_
    refine o_icmp_ge (tgt := 51) dX11_sharesAgree_13 (by decide) ⟨by omega, by omega⟩ ⟨by omega, by omega⟩ (fun c_13 => ?_) (fun c_13 => ?_)
    · skip
      refine o_iconst dX11_sharesAgree_51 ?_
      refine o_ret1 dX11_sharesAgree_52 (by first | exact o_rb0 | exact o_rb1 | exact o_bn _) ?_
      exact o_mtI rfl f1
    · skip
      refine o_aload_n dX11_sharesAgree_16 rfl ?_
      refine o_gf dX11_sharesAgree_17 fl_X11_39 rfl (by decide) rfl ?_
      refine o_aload_n dX11_sharesAgree_20 rfl ?_
      refine o_gf dX11_sharesAgree_21 fl_X11_12 rfl (by decide) rfl ?_
      refine o_iload_n dX11_sharesAgree_24 rfl ?_
      refine o_cVm _ (ct_X3_shareByGiving hl d g1 M h1 hwk i (by omega)) dX11_sharesAgree_25 ml_X11_220 yw_X3_shareByGiving rfl (by decide) (by omega) (by decide) rfl rfl rfl (Nat.le_of_ble_eq_true rfl) (fun g_25 q_25 => ?_)
      have f2 := o_fr_t f1 q_25
      have h2 := o_st_c hst (fun a a1 a2 => f2 a (fun z => by have z : 159 ≤ a ∧ a ≤ 162 := z; omega))
      refine o_aload_n dX11_sharesAgree_28 rfl ?_
      refine o_gf dX11_sharesAgree_29 fl_X11_39 rfl (by decide) rfl ?_
      refine o_aload_n dX11_sharesAgree_32 rfl ?_
      refine o_gf dX11_sharesAgree_33 fl_X11_12 rfl (by decide) rfl ?_
      refine o_iload_n dX11_sharesAgree_36 rfl ?_
      refine o_cVm _ (ct_X3_shareByRemainderRank hl d g_25 M h2 hwk i (by omega)) dX11_sharesAgree_37 ml_X11_224 yw_X3_shareByRemainderRank rfl (by decide) (by omega) (by decide) rfl rfl rfl (Nat.le_of_ble_eq_true rfl) (fun g_37 q_37 => ?_)
      have f3 := o_fr_t f2 q_37
      have qR := d_sh_R hwk i
      refine o_icmp_eq (tgt := 45) dX11_sharesAgree_40 (by decide) ⟨by omega, by omega⟩ ⟨by omega, by omega⟩ (fun c_40 => ?_) (fun c_40 => ?_)
      · skip
        refine o_iinc dX11_sharesAgree_45 rfl (by decide) ?_
        refine o_goto (tgt := 2) dX11_sharesAgree_48 (by decide) ?_
        exact o_loc [(0, .ref 0), (1, .int (o_I ((i + 1 : Nat) : Int)))] rfl (ih (by omega) g_37 f3)
      · skip
        exact absurd rfl c_40)
  refine o_iconst dX11_sharesAgree_0 ?_
  refine o_istore_n dX11_sharesAgree_1 (by decide) ?_
  exact o_loc _ rfl (key 0 (Nat.zero_le _) g o_fr_r)
set_option maxRecDepth 100000 in
set_option maxHeartbeats 4000000 in
/-- sharesAddUp() -/
theorem ct_X11_sharesAddUp {l : Launch} (hl : l.stackTraces = false) (d : Nat) (g : Nat → Nat → Int) (M : Nat → Nat → Int) (hst : o_st g M) (hwk : o_wk M) : o_Ct l yX11_sharesAddUp wX11_sharesAddUp (d + 5) o_no [.ref 0] o_N (o_mem g) 0 0 (o_mt (some (.int (o_I 1))) (fun g' => o_fr o_dc g g')) := by
  refine o_Ct.ofV hl mX11_sharesAddUp (by decide +kernel) rfl rfl rfl (Nat.le_of_ble_eq_true rfl) ?_
  obtain ⟨hrs, hrl, hrq, hg3, hg4, hg5, hg6⟩ := id hst
  obtain ⟨hws, hwl, hwq, hwo, hwle, hwrq, hwrd⟩ := id hwk
  have hs0 := hrs.1
  have hl0 := hrl.1
  have hq0 := hrq.1
  have hs1 := o_rs2 hrs
  have hl1 := o_rl6 hrl
  have hq1 := o_rq12 hrq
  obtain ⟨hw1, hw2, hw3⟩ := id hws
  obtain ⟨hw4, hw5, hw6, hw7, hw8⟩ := id hwl
  obtain ⟨hw9, hw10, hw11⟩ := id hwq
  have key := o_lp (fun i => ∀ g1, o_fr o_dc g g1 → o_V l mX11_sharesAddUp (d + 5) o_no (o_mt (some (.int (o_I 1))) (fun g' => o_fr o_dc g g')) 4 [(0, .ref 0), (1, .int (o_I (o_sm (fun s => d_sh M s) i))), (2, .int (o_I (i : Int)))] [] o_N (o_mem g1) 0 0) (M 0 0).toNat (fun i hi ih g1 f1 => by
    have h1 := o_st_c hst (fun a a1 a2 => f1 a (fun z => by have z : 159 ≤ a ∧ a ≤ 162 := z; omega))
    have hs9 : g1 2 0 = M 0 0 := h1.1.1
    have hl9 : g1 6 0 = M 0 1 := h1.2.1.1
    refine o_iload_n dX11_sharesAddUp_4 rfl ?_
    refine o_aload_n dX11_sharesAddUp_5 rfl ?_
    refine o_gf dX11_sharesAddUp_6 fl_X11_12 rfl (by decide) rfl ?_
    refine o_gf dX11_sharesAddUp_9 fl_X11_80 rfl (by decide) rfl ?_
    refine o_gf dX11_sharesAddUp_12 fl_X11_145 rfl (by decide) rfl ?_
    refine o_icmp_ge (tgt := 39) dX11_sharesAddUp_15 (by decide) ⟨by omega, by omega⟩ ⟨by omega, by omega⟩ (fun c_15 => ?_) (fun c_15 => ?_)
    · skip
      have hend := d_sh_sm hwk
      have hdR := d_all_R hwl
      rw [show i = (M 0 0).toNat by omega, hend]
      have hall : o_sm (fun i => if 0 < M 5 i then M 4 i else 0) (M 0 1).toNat = d_all M := rfl
      refine o_iload_n dX11_sharesAddUp_39 rfl ?_
      refine o_aload_n dX11_sharesAddUp_40 rfl ?_
      refine o_gf dX11_sharesAddUp_41 fl_X11_12 rfl (by decide) rfl ?_
      refine o_gf dX11_sharesAddUp_44 fl_X11_94 rfl (by decide) rfl ?_
      refine o_cV _ (ct_X7_demandOfAll hl d g1 M h1.2.1 hwl) dX11_sharesAddUp_47 ml_X11_198 yw_X7_demandOfAll rfl (by decide) (by omega) (by decide) rfl rfl rfl (Nat.le_of_ble_eq_true rfl) ?_
      rw [hall]
      refine o_if_le (tgt := 63) dX11_sharesAddUp_50 (by decide) ⟨by omega, by omega⟩ (fun c_50 => ?_) (fun c_50 => ?_)
      · skip
        refine o_iconst dX11_sharesAddUp_63 ?_
        rw [if_neg (show ¬ 0 < d_all M by omega)]
        refine o_icmp_ne (tgt := 71) dX11_sharesAddUp_64 (by decide) ⟨by omega, by omega⟩ ⟨by omega, by omega⟩ (fun c_64 => ?_) (fun c_64 => ?_)
        · skip
          exact absurd rfl c_64
        · skip
          refine o_iconst dX11_sharesAddUp_67 ?_
          refine o_goto (tgt := 72) dX11_sharesAddUp_68 (by decide) ?_
          refine o_ret1 dX11_sharesAddUp_72 (by first | exact o_rb0 | exact o_rb1 | exact o_bn _) ?_
          exact o_mtI rfl f1
      · skip
        refine o_aload_n dX11_sharesAddUp_53 rfl ?_
        refine o_gf dX11_sharesAddUp_54 fl_X11_12 rfl (by decide) rfl ?_
        refine o_gf dX11_sharesAddUp_57 fl_X11_195 rfl (by decide) rfl ?_
        refine o_goto (tgt := 64) dX11_sharesAddUp_60 (by decide) ?_
        rw [if_pos (show 0 < d_all M by omega), show g1 1 3 = M 0 2 from h1.2.2.2.1]
        refine o_icmp_ne (tgt := 71) dX11_sharesAddUp_64 (by decide) ⟨by omega, by omega⟩ ⟨by omega, by omega⟩ (fun c_64 => ?_) (fun c_64 => ?_)
        · skip
          exact absurd rfl c_64
        · skip
          refine o_iconst dX11_sharesAddUp_67 ?_
          refine o_goto (tgt := 72) dX11_sharesAddUp_68 (by decide) ?_
          refine o_ret1 dX11_sharesAddUp_72 (by first | exact o_rb0 | exact o_rb1 | exact o_bn _) ?_
          exact o_mtI rfl f1
    · skip
      refine o_iload_n dX11_sharesAddUp_18 rfl ?_
      refine o_aload_n dX11_sharesAddUp_19 rfl ?_
      refine o_gf dX11_sharesAddUp_20 fl_X11_39 rfl (by decide) rfl ?_
      refine o_aload_n dX11_sharesAddUp_23 rfl ?_
      refine o_gf dX11_sharesAddUp_24 fl_X11_12 rfl (by decide) rfl ?_
      refine o_iload_n dX11_sharesAddUp_27 rfl ?_
      refine o_cVm _ (ct_X3_shareByGiving hl d g1 M h1 hwk i (by omega)) dX11_sharesAddUp_28 ml_X11_220 yw_X3_shareByGiving rfl (by decide) (by omega) (by decide) rfl rfl rfl (Nat.le_of_ble_eq_true rfl) (fun g_28 q_28 => ?_)
      have f2 := o_fr_t f1 q_28
      refine o_iadd dX11_sharesAddUp_31 ?_
      refine o_istore_n dX11_sharesAddUp_32 (by decide) ?_
      refine o_iinc dX11_sharesAddUp_33 rfl (by decide) ?_
      refine o_goto (tgt := 4) dX11_sharesAddUp_36 (by decide) ?_
      exact o_loc [(0, .ref 0), (1, .int (o_I (o_sm (fun s => d_sh M s) (i + 1)))), (2, .int (o_I ((i + 1 : Nat) : Int)))] rfl (ih (by omega) g_28 f2))
  refine o_iconst dX11_sharesAddUp_0 ?_
  refine o_istore_n dX11_sharesAddUp_1 (by decide) ?_
  refine o_iconst dX11_sharesAddUp_2 ?_
  refine o_istore_n dX11_sharesAddUp_3 (by decide) ?_
  exact o_loc _ rfl (key 0 (Nat.zero_le _) g o_fr_r)
set_option maxRecDepth 100000 in
set_option maxHeartbeats 4000000 in
/-- brightnessAgrees() -/
theorem ct_X11_brightnessAgrees {l : Launch} (hl : l.stackTraces = false) (d : Nat) (g : Nat → Nat → Int) (M : Nat → Nat → Int) (hst : o_st g M) (hwk : o_wk M) : o_Ct l yX11_brightnessAgrees wX11_brightnessAgrees (d + 3) o_no [.ref 0] o_N (o_mem g) 0 0 (o_mt (some (.int (o_I 1))) (fun g' => o_fr (fun a => a = 158) g g')) := by
  refine o_Ct.ofV hl mX11_brightnessAgrees (by decide +kernel) rfl rfl rfl (Nat.le_of_ble_eq_true rfl) ?_
  obtain ⟨hrs, hrl, hrq, hg3, hg4, hg5, hg6⟩ := id hst
  obtain ⟨hws, hwl, hwq, hwo, hwle, hwrq, hwrd⟩ := id hwk
  have hs0 := hrs.1
  have hl0 := hrl.1
  have hq0 := hrq.1
  have hs1 := o_rs2 hrs
  have hl1 := o_rl6 hrl
  have hq1 := o_rq12 hrq
  obtain ⟨hw1, hw2, hw3⟩ := id hws
  obtain ⟨hw4, hw5, hw6, hw7, hw8⟩ := id hwl
  obtain ⟨hw9, hw10, hw11⟩ := id hwq
  refine o_aload_n dX11_brightnessAgrees_0 rfl ?_
  refine o_gf dX11_brightnessAgrees_1 fl_X11_32 rfl (by decide) rfl ?_
  refine o_aload_n dX11_brightnessAgrees_4 rfl ?_
  refine o_gf dX11_brightnessAgrees_5 fl_X11_12 rfl (by decide) rfl ?_
  refine o_cV _ (ct_X4_mostLampsByLevels hl d g M hst hwk) dX11_brightnessAgrees_8 ml_X11_214 yw_X4_mostLampsByLevels rfl (by decide) (by omega) (by decide) rfl rfl rfl (Nat.le_of_ble_eq_true rfl) ?_
  refine o_aload_n dX11_brightnessAgrees_11 rfl ?_
  refine o_gf dX11_brightnessAgrees_12 fl_X11_32 rfl (by decide) rfl ?_
  refine o_aload_n dX11_brightnessAgrees_15 rfl ?_
  refine o_gf dX11_brightnessAgrees_16 fl_X11_12 rfl (by decide) rfl ?_
  refine o_cVm _ (ct_X4_mostLampsByTable hl d g M hst hwk) dX11_brightnessAgrees_19 ml_X11_217 yw_X4_mostLampsByTable rfl (by decide) (by omega) (by decide) rfl rfl rfl (Nat.le_of_ble_eq_true rfl) (fun g_19 q_19 => ?_)
  have hm := t_most hwk
  have hmR := t_max_R (T := t_tb M (M 0 1).toNat) (m := ((M 0 1).toNat : Int)) (by omega) (fun s => (t_tb_R M (M 0 1).toNat s).2) (min 25 (M 0 2 + 1).toNat)
  rw [hm] at hmR ⊢
  refine o_icmp_ne (tgt := 29) dX11_brightnessAgrees_22 (by decide) ⟨by omega, by omega⟩ ⟨by omega, by omega⟩ (fun c_22 => ?_) (fun c_22 => ?_)
  · skip
    exact absurd rfl c_22
  · skip
    refine o_iconst dX11_brightnessAgrees_25 ?_
    refine o_goto (tgt := 30) dX11_brightnessAgrees_26 (by decide) ?_
    refine o_ret1 dX11_brightnessAgrees_30 (by first | exact o_rb0 | exact o_rb1 | exact o_bn _) ?_
    exact o_mtI rfl q_19
set_option maxRecDepth 100000 in
set_option maxHeartbeats 4000000 in
/-- requestsAreForLeasedLamps() -/
theorem ct_X11_requestsAreForLeasedLamps {l : Launch} (hl : l.stackTraces = false) (d : Nat) (g : Nat → Nat → Int) (M : Nat → Nat → Int) (hst : o_st g M) (hwk : o_wk M) : o_Ct l yX11_requestsAreForLeasedLamps wX11_requestsAreForLeasedLamps (d + 2) o_no [.ref 0] o_N (o_mem g) 0 0 (o_is (some (.int (o_I 1))) o_N (o_mem g)) := by
  refine o_Ct.ofV hl mX11_requestsAreForLeasedLamps (by decide +kernel) rfl rfl rfl (Nat.le_of_ble_eq_true rfl) ?_
  obtain ⟨hrs, hrl, hrq, hg3, hg4, hg5, hg6⟩ := id hst
  obtain ⟨hws, hwl, hwq, hwo, hwle, hwrq, hwrd⟩ := id hwk
  have hs0 := hrs.1
  have hl0 := hrl.1
  have hq0 := hrq.1
  have hs1 := o_rs2 hrs
  have hl1 := o_rl6 hrl
  have hq1 := o_rq12 hrq
  obtain ⟨hw1, hw2, hw3⟩ := id hws
  obtain ⟨hw4, hw5, hw6, hw7, hw8⟩ := id hwl
  obtain ⟨hw9, hw10, hw11⟩ := id hwq
  have key := o_lp (fun i => o_V l mX11_requestsAreForLeasedLamps (d + 2) o_no (o_is (some (.int (o_I 1))) o_N (o_mem g)) 2 [(0, .ref 0), (1, .int (o_I (i : Int)))] [] o_N (o_mem g) 0 0) (M 0 6).toNat (fun i hi ih => by
    refine o_iload_n dX11_requestsAreForLeasedLamps_2 rfl ?_
    refine o_aload_n dX11_requestsAreForLeasedLamps_3 rfl ?_
    refine o_gf dX11_requestsAreForLeasedLamps_4 fl_X11_12 rfl (by decide) rfl ?_
    refine o_gf dX11_requestsAreForLeasedLamps_7 fl_X11_121 rfl (by decide) rfl ?_
    refine o_gf dX11_requestsAreForLeasedLamps_10 fl_X11_227 rfl (by decide) rfl ?_
    refine o_icmp_ge (tgt := 49) dX11_requestsAreForLeasedLamps_13 (by decide) ⟨by omega, by omega⟩ ⟨by omega, by omega⟩ (fun c_13 => ?_) (fun c_13 => ?_)
    · skip
      refine o_iconst dX11_requestsAreForLeasedLamps_49 ?_
      refine o_ret1 dX11_requestsAreForLeasedLamps_50 (by first | exact o_rb0 | exact o_rb1 | exact o_bn _) ?_
      exact ⟨rfl, rfl, rfl⟩
    · skip
      refine o_aload_n dX11_requestsAreForLeasedLamps_16 rfl ?_
      refine o_gf dX11_requestsAreForLeasedLamps_17 fl_X11_12 rfl (by decide) rfl ?_
      refine o_gf dX11_requestsAreForLeasedLamps_20 fl_X11_94 rfl (by decide) rfl ?_
      refine o_aload_n dX11_requestsAreForLeasedLamps_23 rfl ?_
      refine o_gf dX11_requestsAreForLeasedLamps_24 fl_X11_12 rfl (by decide) rfl ?_
      refine o_gf dX11_requestsAreForLeasedLamps_27 fl_X11_121 rfl (by decide) rfl ?_
      refine o_gf dX11_requestsAreForLeasedLamps_30 fl_X11_231 rfl (by decide) rfl ?_
      refine o_iload_n dX11_requestsAreForLeasedLamps_33 rfl ?_
      refine o_ialdn (j := i) dX11_requestsAreForLeasedLamps_34 (by decide) rfl (by decide) (by first | rfl | omega) (by omega) ?_
      have hqi := hw11 i (by omega)
      have hqr := hwrq i (by omega)
      rw [(hq1 i (by omega)).1]
      refine o_cV _ (ct_X7_isTaken hl d g M hrl hwl (M 9 i) ⟨by omega, by omega⟩) dX11_requestsAreForLeasedLamps_35 ml_X11_175 yw_X7_isTaken rfl (by decide) (by omega) (by decide) rfl rfl rfl (Nat.le_of_ble_eq_true rfl) ?_
      refine o_ifb_ne (tgt := 43) dX11_requestsAreForLeasedLamps_38 (by decide) (fun c_38 => ?_) (fun c_38 => ?_)
      · skip
        refine o_iinc dX11_requestsAreForLeasedLamps_43 rfl (by decide) ?_
        refine o_goto (tgt := 2) dX11_requestsAreForLeasedLamps_46 (by decide) ?_
        exact o_loc [(0, .ref 0), (1, .int (o_I ((i + 1 : Nat) : Int)))] rfl (ih (by omega))
      · skip
        exact absurd ⟨hqi.1.1, hqi.1.2, hqr⟩ c_38)
  refine o_iconst dX11_requestsAreForLeasedLamps_0 ?_
  refine o_istore_n dX11_requestsAreForLeasedLamps_1 (by decide) ?_
  exact o_loc _ rfl (key 0 (Nat.zero_le _))
set_option maxRecDepth 100000 in
set_option maxHeartbeats 4000000 in
/-- isConsistent() -/
theorem ct_X11_isConsistent {l : Launch} (hl : l.stackTraces = false) (d : Nat) (g M : Nat → Nat → Int) (P : List (Nat → Nat → Int)) (S : Option (Nat → Nat → Int)) (T : Nat → Nat → Int) (hxd : o_xd g M P S T) (hwf : o_wf M) : o_Ct l yX11_isConsistent wX11_isConsistent (d + 6) o_no [.ref 0] o_N (o_mem g) 0 0 (x_x [] (0) (.int (o_I 1)) (M) (P) (S) (T) g) := by
  refine o_Ct.ofV hl mX11_isConsistent (by decide +kernel) rfl rfl rfl (Nat.le_of_ble_eq_true rfl) ?_
  have hst := hxd.1
  obtain ⟨hrs, hrl, hrq, hg3, hg4, hg5, hg6⟩ := id hst
  obtain ⟨⟨hws, hwl, hwq, hwo, hwle, hwrq, hwrd⟩, hwh, hwc, hwe⟩ := id hwf
  have hs0 := hrs.1
  have hl0 := hrl.1
  have hq0 := hrq.1
  have hs1 := o_rs2 hrs
  have hl1 := o_rl6 hrl
  have hq1 := o_rq12 hrq
  obtain ⟨hw1, hw2, hw3⟩ := id hws
  obtain ⟨hw4, hw5, hw6, hw7, hw8⟩ := id hwl
  obtain ⟨hw9, hw10, hw11⟩ := id hwq
  have hwk := hwf.1
  refine o_aload_n dX11_isConsistent_0 rfl ?_
  refine o_cV _ (ct_X11_coinsAddUp hl d g M hst hwf) dX11_isConsistent_1 ml_X11_258 yw_X11_coinsAddUp rfl (by decide) (by omega) (by decide) rfl rfl rfl (Nat.le_of_ble_eq_true rfl) ?_
  refine o_if_eq (tgt := 39) dX11_isConsistent_4 (by decide) ⟨by omega, by omega⟩ (fun c => absurd c (by decide)) (fun _ => ?_)
  refine o_aload_n dX11_isConsistent_7 rfl ?_
  refine o_cVm _ (ct_X11_sharesAgree hl d g M hst hwk) dX11_isConsistent_8 ml_X11_262 yw_X11_sharesAgree rfl (by decide) (by omega) (by decide) rfl rfl rfl (Nat.le_of_ble_eq_true rfl) (fun g_8 q_8 => ?_)
  have x8 := o_xd_k hxd (o_fr_m q_8 (fun a ha => by have : 159 ≤ a ∧ a ≤ 162 := ha; omega))
  refine o_if_eq (tgt := 39) dX11_isConsistent_11 (by decide) ⟨by omega, by omega⟩ (fun c => absurd c (by decide)) (fun _ => ?_)
  refine o_aload_n dX11_isConsistent_14 rfl ?_
  refine o_cVm _ (ct_X11_sharesAddUp hl d g_8 M x8.1.1 hwk) dX11_isConsistent_15 ml_X11_265 yw_X11_sharesAddUp rfl (by decide) (by omega) (by decide) rfl rfl rfl (Nat.le_of_ble_eq_true rfl) (fun g_15 q_15 => ?_)
  have x15 := o_xd_k x8.1 (o_fr_m q_15 (fun a ha => by have : 159 ≤ a ∧ a ≤ 162 := ha; omega))
  refine o_if_eq (tgt := 39) dX11_isConsistent_18 (by decide) ⟨by omega, by omega⟩ (fun c => absurd c (by decide)) (fun _ => ?_)
  refine o_aload_n dX11_isConsistent_21 rfl ?_
  refine o_cVm _ (ct_X11_brightnessAgrees hl d g_15 M x15.1.1 hwk) dX11_isConsistent_22 ml_X11_268 yw_X11_brightnessAgrees rfl (by decide) (by omega) (by decide) rfl rfl rfl (Nat.le_of_ble_eq_true rfl) (fun g_22 q_22 => ?_)
  have x22 := o_xd_k x15.1 (o_fr_m q_22 (fun a ha => by have : a = 158 := ha; omega))
  refine o_if_eq (tgt := 39) dX11_isConsistent_25 (by decide) ⟨by omega, by omega⟩ (fun c => absurd c (by decide)) (fun _ => ?_)
  refine o_aload_n dX11_isConsistent_28 rfl ?_
  refine o_cV _ (ct_X11_requestsAreForLeasedLamps hl d g_22 M x22.1.1 hwk) dX11_isConsistent_29 ml_X11_271 yw_X11_requestsAreForLeasedLamps rfl (by decide) (by omega) (by decide) rfl rfl rfl (Nat.le_of_ble_eq_true rfl) ?_
  refine o_if_eq (tgt := 39) dX11_isConsistent_32 (by decide) ⟨by omega, by omega⟩ (fun c => absurd c (by decide)) (fun _ => ?_)
  refine o_iconst dX11_isConsistent_35 ?_
  refine o_goto (tgt := 40) dX11_isConsistent_36 (by decide) ?_
  refine o_ret1 dX11_isConsistent_40 (by first | exact o_rb0 | exact o_rb1 | exact o_bn _) ?_
  exact x_xI rfl rfl ⟨x22.1, o_fr_t x8.2 (o_fr_t x15.2 x22.2)⟩
