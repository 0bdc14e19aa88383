set_option maxRecDepth 100000 in
set_option maxHeartbeats 4000000 in
/-- anyBrightOf(s) -/
theorem ct_X7_anyBrightOf {l : Launch} (hl : l.stackTraces = false) (d : Nat) (g : Nat → Nat → Int) (M : Nat → Nat → Int) (hr : o_rl g 6 M) (hw : o_wl M) (s : Int) (hs : o_R s) : o_Ct l yX7_anyBrightOf wX7_anyBrightOf (d + 2) o_no [.ref 6, .int (o_I s)] o_N (o_mem g) 0 0 (o_is (some (.int (o_I (o_b (0 < o_sm (fun j => o_b (M 5 j = s + 1 ∧ M 8 j = 1)) (M 0 1).toNat))))) o_N (o_mem g)) := by
  refine o_Ct.ofV hl mX7_anyBrightOf (by decide +kernel) rfl rfl rfl (Nat.le_of_ble_eq_true rfl) ?_
  obtain ⟨N, hN, hN8⟩ := o_N1 hw
  have h0 := hr.1
  have h8 := o_rl6 hr
  obtain ⟨hw1, hw2, hw3, hw4, hwb⟩ := id hw
  have key := o_lp (fun i => o_sm (fun j => o_b (M 5 j = s + 1 ∧ M 8 j = 1)) i = 0 → o_V l mX7_anyBrightOf (d + 2) o_no (o_is (some (.int (o_I (o_b (0 < o_sm (fun j => o_b (M 5 j = s + 1 ∧ M 8 j = 1)) (M 0 1).toNat))))) o_N (o_mem g)) 2 [(0, .ref 6), (1, .int (o_I s)), (2, .int (o_I ((i : Nat) : Int)))] [] o_N (o_mem g) 0 0) N (fun i hi ih h0 => by
    have hg0 := hr.1
    refine o_iload_n dX7_anyBrightOf_2 rfl ?_
    refine o_aload_n dX7_anyBrightOf_3 rfl ?_
    refine o_gf dX7_anyBrightOf_4 fl_X7_28 rfl (by decide) rfl ?_
    refine o_icmp_ge (tgt := 36) dX7_anyBrightOf_7 (by decide) ⟨by omega, by omega⟩ ⟨by omega, by omega⟩ (fun c_7 => ?_) (fun c_7 => ?_)
    · skip
      refine o_iconst dX7_anyBrightOf_36 ?_
      refine o_ret1 dX7_anyBrightOf_37 (by first | exact o_rb0 | exact o_rb1 | exact o_bn _) ?_
      rw [show N = (M 0 1).toNat by omega] at *
      rw [show i = (M 0 1).toNat by omega] at h0
      rw [o_b0 (by omega)]
      exact ⟨rfl, rfl, rfl⟩
    · skip
      refine o_aload_n dX7_anyBrightOf_10 rfl ?_
      refine o_iload_n dX7_anyBrightOf_11 rfl ?_
      refine o_iload_n dX7_anyBrightOf_12 rfl ?_
      refine o_cV _ (ct_isTakenByN hl d g M hr hw i (by omega) s hs) dX7_anyBrightOf_13 ml_X7_36 yw_X7_isTakenBy rfl (by decide) (by omega) (by decide) rfl rfl rfl (Nat.le_of_ble_eq_true rfl) ?_
      refine o_ifb_eq (tgt := 30) dX7_anyBrightOf_16 (by decide) (fun c_16 => ?_) (fun c_16 => ?_)
      · skip
        refine o_iinc dX7_anyBrightOf_30 rfl (by decide) ?_
        refine o_goto (tgt := 2) dX7_anyBrightOf_33 (by decide) ?_
        exact o_loc [(0, .ref 6), (1, .int (o_I s)), (2, .int (o_I (((i + 1) : Nat) : Int)))] rfl (ih (by omega) (by show o_sm (fun j => o_b (M 5 j = s + 1 ∧ M 8 j = 1)) i + o_b _ = 0; rw [h0, o_b0 (fun q => c_16 q.1)]; rfl))
      · skip
        refine o_aload_n dX7_anyBrightOf_19 rfl ?_
        refine o_gf dX7_anyBrightOf_20 fl_X7_24 rfl (by decide) rfl ?_
        refine o_iload_n dX7_anyBrightOf_23 rfl ?_
        refine o_zaldn (j := i) dX7_anyBrightOf_24 (by decide) rfl (by decide) rfl (by omega) ?_
        rw [(h8 i (by omega)).2.2.2.2]
        have h85 := (hwb i (by omega)).2.2.2.2
        refine o_if_eq (tgt := 30) dX7_anyBrightOf_25 (by decide) ⟨by omega, by omega⟩ (fun c_25 => ?_) (fun c_25 => ?_)
        · skip
          refine o_iinc dX7_anyBrightOf_30 rfl (by decide) ?_
          refine o_goto (tgt := 2) dX7_anyBrightOf_33 (by decide) ?_
          exact o_loc [(0, .ref 6), (1, .int (o_I s)), (2, .int (o_I (((i + 1) : Nat) : Int)))] rfl (ih (by omega) (by show o_sm (fun j => o_b (M 5 j = s + 1 ∧ M 8 j = 1)) i + o_b _ = 0; rw [h0, o_b0 (fun q => by omega)]; rfl))
        · skip
          refine o_iconst dX7_anyBrightOf_28 ?_
          refine o_ret1 dX7_anyBrightOf_29 (by first | exact o_rb0 | exact o_rb1 | exact o_bn _) ?_
          rw [o_b1 (o_sm_pos (f := (fun j => o_b (M 5 j = s + 1 ∧ M 8 j = 1))) (fun i => o_b_nn _) (i := i) (by omega) (by show 0 < o_b _; rw [o_b1 ⟨c_16, by omega⟩]; decide))]
          exact ⟨rfl, rfl, rfl⟩)
  refine o_iconst dX7_anyBrightOf_0 ?_
  refine o_istore_n dX7_anyBrightOf_1 (by decide) ?_
  exact o_loc _ rfl (key 0 (Nat.zero_le _) rfl)
set_option maxRecDepth 100000 in
set_option maxHeartbeats 4000000 in
/-- burn() -/
theorem ct_X10_burn {l : Launch} (hl : l.stackTraces = false) (d : Nat) (g : Nat → Nat → Int) (M : Nat → Nat → Int) (hst : o_st g M) (hwk : o_wk M) : o_Ct l yX10_burn wX10_burn (d + 2) o_no [.ref 1] o_N (o_mem g) 0 0 (o_mt (none) (fun g' => o_st g' (m_burns M) ∧ o_fr (o_cs 1) g g')) := by
  refine o_Ct.ofV hl mX10_burn (by decide +kernel) rfl rfl rfl (Nat.le_of_ble_eq_true rfl) ?_
  obtain ⟨hrs, hrl, hrq, hg3, hg4, hg5, hg6⟩ := id hst
  obtain ⟨hws, hwl, hwq, hwo, hwle, hwrq, hwrd⟩ := id hwk
  have hs0 := hrs.1
  have hl0 := hrl.1
  have hq0 := hrq.1
  have hs1 := o_rs2 hrs
  have hl1 := o_rl6 hrl
  have hq1 := o_rq12 hrq
  obtain ⟨hw1, hw2, hw3⟩ := id hws
  obtain ⟨hw4, hw5, hw6, hw7, hw8⟩ := id hwl
  obtain ⟨hw9, hw10, hw11⟩ := id hwq
  have key := o_lp (fun i => ∀ g1, o_st g1 (o_fd m_burn1 M i) → o_fr (o_cs 1) g g1 → o_V l mX10_burn (d + 2) o_no (o_mt (none) (fun g' => o_st g' (m_burns M) ∧ o_fr (o_cs 1) g g')) 2 [(0, .ref 1), (1, .int (o_I ((i : Nat) : Int)))] [] o_N (o_mem g1) 0 0) (M 0 1).toNat (fun i hi ih g1 h1 f1 => by
    have e9 : o_fd m_burn1 M (i + 1) = m_burn1 (o_fd m_burn1 M i) i := rfl
    have ki := ke_burns hwk i hi
    obtain ⟨Mi, hMi⟩ : ∃ Mi, Mi = o_fd m_burn1 M i := ⟨_, rfl⟩
    rw [← hMi] at h1 ki e9
    obtain ⟨hrs, hrl, hrq, hg3, hg4, hg5, hg6⟩ := id h1
    obtain ⟨hws, hwl, hwq, hwo, hwle, hwrq, hwrd⟩ := id ki.1
    have hs0 := hrs.1
    have hl0 := hrl.1
    have hq0 := hrq.1
    have hs1 := o_rs2 hrs
    have hl1 := o_rl6 hrl
    have hq1 := o_rq12 hrq
    obtain ⟨hw1, hw2, hw3⟩ := id hws
    obtain ⟨hw4, hw5, hw6, hw7, hw8⟩ := id hwl
    obtain ⟨hw9, hw10, hw11⟩ := id hwq
    have hc9 := ki.2.2.1
    refine o_iload_n dX10_burn_2 rfl ?_
    refine o_aload_n dX10_burn_3 rfl ?_
    refine o_gf dX10_burn_4 fl_X10_21 rfl (by decide) rfl ?_
    refine o_gf dX10_burn_7 fl_X10_36 rfl (by decide) rfl ?_
    refine o_icmp_ge (tgt := 103) dX10_burn_10 (by decide) ⟨by omega, by omega⟩ ⟨by omega, by omega⟩ (fun c_10 => ?_) (fun c_10 => ?_)
    · skip
      refine o_ret0 dX10_burn_103 trivial ?_
      exact o_mt0 ⟨by have e : i = (M 0 1).toNat := by omega
                      rw [hMi, e] at h1; exact h1, f1⟩
    · skip
      refine o_aload_n dX10_burn_13 rfl ?_
      refine o_gf dX10_burn_14 fl_X10_21 rfl (by decide) rfl ?_
      refine o_gf dX10_burn_17 fl_X10_121 rfl (by decide) rfl ?_
      refine o_iload_n dX10_burn_20 rfl ?_
      refine o_aload_n dX10_burn_21 rfl ?_
      refine o_gf dX10_burn_22 fl_X10_21 rfl (by decide) rfl ?_
      refine o_iload_n dX10_burn_25 rfl ?_
      have hi9 : (i : Int) < Mi 0 1 := by omega
      have hb8 := hw8 i hi9
      have hl8 := hl1 i hi9
      refine o_cV _ (ct_isTakenN hl d g1 Mi hrl hwl i hi9) dX10_burn_26 ml_X10_48 yw_X7_isTaken rfl (by decide) (by omega) (by decide) rfl rfl rfl (Nat.le_of_ble_eq_true rfl) ?_
      refine o_ifb_eq (tgt := 52) dX10_burn_29 (by decide) (fun c_29 => ?_) (fun c_29 => ?_)
      · skip
        refine o_iconst dX10_burn_52 ?_
        refine o_zaEn (j := i) dX10_burn_53 rfl (by decide) (by decide) rfl (by omega) (by first | exact Or.inl rfl | exact Or.inr rfl) (fun _ => rfl) (by decide) (fun g_53 e_53 => ?_)
        have h_53 := o_st_8' h1 e_53 rfl
        have v_53 := congrFun (congrFun e_53 11) i
        rw [o_e_s] at v_53
        refine o_aload_n dX10_burn_54 rfl ?_
        refine o_gf dX10_burn_55 fl_X10_21 rfl (by decide) rfl ?_
        refine o_gf dX10_burn_58 fl_X10_121 rfl (by decide) rfl ?_
        refine o_iload_n dX10_burn_61 rfl ?_
        refine o_zaldn (j := i) dX10_burn_62 (by decide) rfl (by decide) rfl (by omega) ?_
        rw [v_53]
        refine o_if_eq (tgt := 97) dX10_burn_63 (by decide) ⟨by omega, by omega⟩ (fun _ => ?_) (fun c => absurd rfl c)
        refine o_iinc dX10_burn_97 rfl (by decide) ?_
        refine o_goto (tgt := 2) dX10_burn_100 (by decide) ?_
        refine o_loc [(0, .ref 1), (1, .int (o_I (((i + 1) : Nat) : Int)))] rfl (ih (by omega) g_53 (by rw [e9, m_burn1, if_neg (by omega)]; exact h_53) (o_fr_e' f1 e_53 (o_cs1 (by decide) (by decide))))
      · skip
        refine o_aload_n dX10_burn_32 rfl ?_
        refine o_gf dX10_burn_33 fl_X10_21 rfl (by decide) rfl ?_
        refine o_gf dX10_burn_36 fl_X10_63 rfl (by decide) rfl ?_
        refine o_iload_n dX10_burn_39 rfl ?_
        refine o_ialdn (j := i) dX10_burn_40 (by decide) rfl (by decide) rfl (by omega) ?_
        refine o_aload_n dX10_burn_41 rfl ?_
        refine o_gf dX10_burn_42 fl_X10_37 rfl (by decide) rfl ?_
        refine o_icmp_gt (tgt := 52) dX10_burn_45 (by decide) ⟨by omega, by omega⟩ ⟨by omega, by omega⟩ (fun c_45 => ?_) (fun c_45 => ?_)
        · skip
          refine o_iconst dX10_burn_52 ?_
          refine o_zaEn (j := i) dX10_burn_53 rfl (by decide) (by decide) rfl (by omega) (by first | exact Or.inl rfl | exact Or.inr rfl) (fun _ => rfl) (by decide) (fun g_53 e_53 => ?_)
          have h_53 := o_st_8' h1 e_53 rfl
          have v_53 := congrFun (congrFun e_53 11) i
          rw [o_e_s] at v_53
          refine o_aload_n dX10_burn_54 rfl ?_
          refine o_gf dX10_burn_55 fl_X10_21 rfl (by decide) rfl ?_
          refine o_gf dX10_burn_58 fl_X10_121 rfl (by decide) rfl ?_
          refine o_iload_n dX10_burn_61 rfl ?_
          refine o_zaldn (j := i) dX10_burn_62 (by decide) rfl (by decide) rfl (by omega) ?_
          rw [v_53]
          refine o_if_eq (tgt := 97) dX10_burn_63 (by decide) ⟨by omega, by omega⟩ (fun _ => ?_) (fun c => absurd rfl c)
          refine o_iinc dX10_burn_97 rfl (by decide) ?_
          refine o_goto (tgt := 2) dX10_burn_100 (by decide) ?_
          refine o_loc [(0, .ref 1), (1, .int (o_I (((i + 1) : Nat) : Int)))] rfl (ih (by omega) g_53 (by rw [e9, m_burn1, if_neg (by omega)]; exact h_53) (o_fr_e' f1 e_53 (o_cs1 (by decide) (by decide))))
        · skip
          refine o_iconst dX10_burn_48 ?_
          refine o_goto (tgt := 53) dX10_burn_49 (by decide) ?_
          refine o_zaEn (j := i) dX10_burn_53 rfl (by decide) (by decide) rfl (by omega) (by first | exact Or.inl rfl | exact Or.inr rfl) (fun _ => rfl) (by decide) (fun g_53 e_53 => ?_)
          have h_53 := o_st_8' h1 e_53 rfl
          have v_53 := congrFun (congrFun e_53 11) i
          rw [o_e_s] at v_53
          refine o_aload_n dX10_burn_54 rfl ?_
          refine o_gf dX10_burn_55 fl_X10_21 rfl (by decide) rfl ?_
          refine o_gf dX10_burn_58 fl_X10_121 rfl (by decide) rfl ?_
          refine o_iload_n dX10_burn_61 rfl ?_
          refine o_zaldn (j := i) dX10_burn_62 (by decide) rfl (by decide) rfl (by omega) ?_
          rw [v_53]
          refine o_if_eq (tgt := 97) dX10_burn_63 (by decide) ⟨by omega, by omega⟩ (fun c => absurd c (by decide)) (fun _ => ?_)
          refine o_aload_n dX10_burn_66 rfl ?_
          refine o_dup dX10_burn_67 rfl ?_
          refine o_gf dX10_burn_68 fl_X10_37 rfl (by decide) rfl ?_
          refine o_aload_n dX10_burn_71 rfl ?_
          refine o_gf dX10_burn_72 fl_X10_21 rfl (by decide) rfl ?_
          refine o_gf dX10_burn_75 fl_X10_63 rfl (by decide) rfl ?_
          refine o_iload_n dX10_burn_78 rfl ?_
          refine o_ialdn (j := i) dX10_burn_79 (by decide) rfl (by decide) rfl (by omega) ?_
          refine o_isub dX10_burn_80 ?_
          refine o_pmE dX10_burn_81 fp_X10_37 rfl (by decide) (Nat.le_of_ble_eq_true rfl) rfl rfl (fun _ => rfl) (by decide) (fun g_81 e_81 => ?_)
          have h_81 := o_st_0_2' h_53 e_81 (show g_53 1 3 - g_53 7 i = Mi 0 2 - Mi 4 i by have t1 := o_st_oil h_53; have t2 : g_53 1 3 = Mi 0 2 := t1; have t3 := ((o_st_l h_53).2 i hi9).1; have t4 : g_53 7 i = Mi 4 i := t3; omega)
          refine o_aload_n dX10_burn_84 rfl ?_
          refine o_gf dX10_burn_85 fl_X10_21 rfl (by decide) rfl ?_
          refine o_gf dX10_burn_88 fl_X10_125 rfl (by decide) rfl ?_
          refine o_iload_n dX10_burn_91 rfl ?_
          refine o_dup2 dX10_burn_92 rfl rfl ?_
          refine o_ialdn (j := i) dX10_burn_93 (by decide) rfl (by decide) rfl (by omega) ?_
          refine o_iconst dX10_burn_94 ?_
          refine o_iadd dX10_burn_95 ?_
          refine o_iaEn (j := i) dX10_burn_96 rfl (by decide) (by decide) rfl (by omega) (fun _ => rfl) (by decide) (fun g_96 e_96 => ?_)
          have h_96 := o_st_7' h_81 e_96 (show g_81 10 i + 1 = Mi 7 i + 1 by have t3 := ((o_st_l h_81).2 i hi9).2.2.2.1; have t4 : g_81 10 i = Mi 7 i := t3; omega)
          refine o_iinc dX10_burn_97 rfl (by decide) ?_
          refine o_goto (tgt := 2) dX10_burn_100 (by decide) ?_
          refine o_loc [(0, .ref 1), (1, .int (o_I (((i + 1) : Nat) : Int)))] rfl (ih (by omega) g_96 (by rw [e9, m_burn1, if_pos (by omega)]; exact h_96) (o_fr_e' (o_fr_e' (o_fr_e' f1 e_53 (o_cs1 (by decide) (by decide))) e_81 (o_cs1 (by decide) (by decide))) e_96 (o_cs1 (by decide) (by decide)))))
  refine o_iconst dX10_burn_0 ?_
  refine o_istore_n dX10_burn_1 (by decide) ?_
  exact o_loc _ rfl (key 0 (Nat.zero_le _) g hst o_fr_r)
