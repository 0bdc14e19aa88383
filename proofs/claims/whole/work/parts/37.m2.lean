abbrev o_sg (g M : Nat → Nat → Int) : Prop := o_sr (g 193) M
def n_burn (M : Nat → Nat → Int) : Nat → Int
  | 0 => 0
  | n + 1 => n_burn M n + o_b (0 < (o_fd m_burn1 M n) 5 n ∧ (o_fd m_burn1 M n) 4 n ≤ (o_fd m_burn1 M n) 0 2)
set_option maxRecDepth 100000 in
set_option maxHeartbeats 4000000 in
/-- burns() -/
theorem ct_X12_burns {l : Launch} (hl : l.stackTraces = false) (d : Nat) (g : Nat → Nat → Int) (M : Nat → Nat → Int) (hsr : o_sr (g 193) M) (hwk : o_wk M) : o_Ct l yX12_burns wX12_burns (d + 3) o_no [.ref 192] o_N (o_mem g) 0 0 (o_mt (some (.int (o_I (n_burn M (M 0 1).toNat)))) (fun g' => o_sr (g' 193) (m_burns M) ∧ o_fr o_mc g g')) := by
  refine o_Ct.ofV hl mX12_burns (by decide +kernel) rfl rfl rfl (Nat.le_of_ble_eq_true rfl) ?_
  obtain ⟨⟨hr0, hr1, hr2, hr3, hr4, hr5, hr6⟩, hrs, hrl, hrq⟩ := id hsr
  obtain ⟨hws, hwl, hwq, hwo, hwle, hwrq, hwrd⟩ := id hwk
  obtain ⟨hw1, hw2, hw3⟩ := id hws
  obtain ⟨hw4, hw5, hw6, hw7, hw8⟩ := id hwl
  obtain ⟨hw9, hw10, hw11⟩ := id hwq
  have key := o_lp (fun i => ∀ g1, o_sg g1 (o_fd m_burn1 M i) → o_fr (o_mc) g g1 → o_V l mX12_burns (d + 3) o_no (o_mt (some (.int (o_I (n_burn M (M 0 1).toNat)))) (fun g' => o_sr (g' 193) (m_burns M) ∧ o_fr o_mc g g')) 4 [(0, .ref 192), (1, .int (o_I (n_burn M i))), (2, .int (o_I ((i : Nat) : Int)))] [] o_N (o_mem g1) 0 0) (M 0 1).toNat (fun i hi ih g1 h1 f1 => by
    have e9 : o_fd m_burn1 M (i + 1) = m_burn1 (o_fd m_burn1 M i) i := rfl
    have ki := ke_burns hwk i hi
    obtain ⟨Mi, hMi⟩ : ∃ Mi, Mi = o_fd m_burn1 M i := ⟨_, rfl⟩
    rw [← hMi] at h1 ki e9
    obtain ⟨⟨hr0, hr1, hr2, hr3, hr4, hr5, hr6⟩, hrs, hrl, hrq⟩ := id h1
    obtain ⟨hws, hwl, hwq, hwo, hwle, hwrq, hwrd⟩ := id ki.1
    obtain ⟨hw1, hw2, hw3⟩ := id hws
    obtain ⟨hw4, hw5, hw6, hw7, hw8⟩ := id hwl
    obtain ⟨hw9, hw10, hw11⟩ := id hwq
    have hc9 := ki.2.2.1
    have en : n_burn M (i + 1) = n_burn M i + o_b (0 < Mi 5 i ∧ Mi 4 i ≤ Mi 0 2) := by rw [hMi]; rfl
    refine o_iload_n dX12_burns_4 rfl ?_
    refine o_aload_n dX12_burns_5 rfl ?_
    refine o_gf dX12_burns_6 fl_X12_9 rfl (by decide) rfl ?_
    refine o_iconst dX12_burns_9 ?_
    refine o_ialdn (j := 1) dX12_burns_10 (by decide) rfl (by decide) (by first | rfl | omega) (by omega) ?_
    refine o_icmp_ge (tgt := 121) dX12_burns_11 (by decide) ⟨by omega, by omega⟩ ⟨by omega, by omega⟩ (fun c_11 => ?_) (fun c_11 => ?_)
    · skip
      refine o_iload_n dX12_burns_121 rfl ?_
      refine o_ret1 dX12_burns_122 trivial ?_
      have e : i = (M 0 1).toNat := by omega
      rw [hMi] at h1
      rw [e] at h1 ⊢
      exact o_mtI rfl ⟨h1, f1⟩
    · skip
      have hi9 : (i : Int) < Mi 0 1 := by omega
      have hb8 := hw8 i hi9
      have hl8 := hrl i hi9
      have hl80 : g1 193 (25 + 5 * i + 0) = Mi 4 i := hl8.1
      refine o_aload_n dX12_burns_14 rfl ?_
      refine o_iload_n dX12_burns_15 rfl ?_
      refine o_cV _ (ct_X12_isOut hl d g1 Mi h1 ki.1 i hi9) dX12_burns_16 ml_X12_96 yw_X12_isOut rfl (by decide) (by omega) (by decide) rfl rfl rfl (Nat.le_of_ble_eq_true rfl) ?_
      refine o_ifb_eq (tgt := 41) dX12_burns_19 (by decide) (fun c_19 => ?_) (fun c_19 => ?_)
      · skip
        refine o_iconst dX12_burns_41 ?_
        refine o_istore_n dX12_burns_42 (by decide) ?_
        refine o_aload_n dX12_burns_43 rfl ?_
        refine o_gf dX12_burns_44 fl_X12_9 rfl (by decide) rfl ?_
        refine o_iconst dX12_burns_47 ?_
        refine o_dup2 dX12_burns_48 rfl rfl ?_
        refine o_ialdn (j := 2) dX12_burns_49 (by decide) rfl (by decide) (by first | rfl | omega) (by omega) ?_
        refine o_iload_n dX12_burns_50 rfl ?_
        refine o_if_eq (tgt := 63) dX12_burns_51 (by decide) ⟨by omega, by omega⟩ (fun _ => ?_) (fun c => absurd rfl c)
        refine o_iconst dX12_burns_63 ?_
        refine o_isub dX12_burns_64 ?_
        refine o_iaEn (j := 2) dX12_burns_65 rfl (by decide) (by decide) (by first | rfl | omega) (by omega) (fun _ => rfl) (by decide) (fun g_65 e_65 => ?_)
        have h_65 := sr_0_2' h1 e_65 (show g1 193 2 - 0 = Mi 0 2 by omega)
        rw [o_e_id rfl] at h_65
        refine o_aload_n dX12_burns_66 rfl ?_
        refine o_iload_n dX12_burns_67 rfl ?_
        refine o_iconst dX12_burns_68 ?_
        refine o_iload_n dX12_burns_69 rfl ?_
        refine o_if_eq (tgt := 77) dX12_burns_70 (by decide) ⟨by omega, by omega⟩ (fun _ => ?_) (fun c => absurd rfl c)
        refine o_iconst dX12_burns_77 ?_
        refine o_cVm _ (ct_X12_sets hl (d + 1) g_65 i 4 (by omega) (by decide) _) dX12_burns_78 ml_X12_66 yw_X12_sets rfl (by decide) (by omega) (by decide) rfl rfl rfl (Nat.le_of_ble_eq_true rfl) (fun g_78 q_78 => ?_)
        have h_78 := sr_8' h_65 hw2 hw5 q_78 (by omega) rfl
        refine o_aload_n dX12_burns_81 rfl ?_
        refine o_iload_n dX12_burns_82 rfl ?_
        refine o_iconst dX12_burns_83 ?_
        refine o_aload_n dX12_burns_84 rfl ?_
        refine o_iload_n dX12_burns_85 rfl ?_
        refine o_iconst dX12_burns_86 ?_
        refine o_cV _ (ct_X12_of hl (d + 1) g_78 i 3 (by omega) (by decide)) dX12_burns_87 ml_X12_58 yw_X12_of rfl (by decide) (by omega) (by decide) rfl rfl rfl (Nat.le_of_ble_eq_true rfl) ?_
        refine o_iload_n dX12_burns_90 rfl ?_
        refine o_if_eq (tgt := 98) dX12_burns_91 (by decide) ⟨by omega, by omega⟩ (fun _ => ?_) (fun c => absurd rfl c)
        refine o_iconst dX12_burns_98 ?_
        refine o_iadd dX12_burns_99 ?_
        refine o_cVm _ (ct_X12_sets hl (d + 1) g_78 i 3 (by omega) (by decide) _) dX12_burns_100 ml_X12_66 yw_X12_sets rfl (by decide) (by omega) (by decide) rfl rfl rfl (Nat.le_of_ble_eq_true rfl) (fun g_100 q_100 => ?_)
        have h_100 := sr_7' h_78 hw2 hw5 q_100 (by omega) (z := Mi 7 i) (by have t := (h_78.2.2.1 i hi9).2.2.2.1; have t2 : g_78 193 (25 + 5 * i + 3) = Mi 7 i := t; omega)
        rw [o_e_id (M := o_e Mi 8 i 0) (a := 7) (j := i) (z := Mi 7 i) rfl] at h_100
        refine o_iload_n dX12_burns_103 rfl ?_
        refine o_iload_n dX12_burns_104 rfl ?_
        refine o_if_eq (tgt := 112) dX12_burns_105 (by decide) ⟨by omega, by omega⟩ (fun _ => ?_) (fun c => absurd rfl c)
        refine o_iconst dX12_burns_112 ?_
        refine o_iadd dX12_burns_113 ?_
        refine o_istore_n dX12_burns_114 (by decide) ?_
        refine o_iinc dX12_burns_115 rfl (by decide) ?_
        refine o_goto (tgt := 4) dX12_burns_118 (by decide) ?_
        refine o_loc [(0, .ref 192), (1, .int (o_I (n_burn M (i + 1)))), (2, .int (o_I (((i + 1) : Nat) : Int)))] (by rw [en, o_b0 (fun q => c_19 q.1)]; rfl) (ih (by omega) g_100 (by rw [e9, m_burn1, if_neg (fun q => c_19 q.1)]; exact h_100) (o_fr_e' (o_fr_e' (o_fr_e' f1 e_65 (show o_mc _ from rfl)) q_78 (show o_mc _ from rfl)) q_100 (show o_mc _ from rfl)))
      · skip
        refine o_aload_n dX12_burns_22 rfl ?_
        refine o_iload_n dX12_burns_23 rfl ?_
        refine o_iconst dX12_burns_24 ?_
        refine o_cV _ (ct_X12_of hl (d + 1) g1 i 0 (by omega) (by decide)) dX12_burns_25 ml_X12_58 yw_X12_of rfl (by decide) (by omega) (by decide) rfl rfl rfl (Nat.le_of_ble_eq_true rfl) ?_
        refine o_aload_n dX12_burns_28 rfl ?_
        refine o_gf dX12_burns_29 fl_X12_9 rfl (by decide) rfl ?_
        refine o_iconst dX12_burns_32 ?_
        refine o_ialdn (j := 2) dX12_burns_33 (by decide) rfl (by decide) (by first | rfl | omega) (by omega) ?_
        refine o_icmp_gt (tgt := 41) dX12_burns_34 (by decide) ⟨by omega, by omega⟩ ⟨by omega, by omega⟩ (fun c_34 => ?_) (fun c_34 => ?_)
        · skip
          refine o_iconst dX12_burns_41 ?_
          refine o_istore_n dX12_burns_42 (by decide) ?_
          refine o_aload_n dX12_burns_43 rfl ?_
          refine o_gf dX12_burns_44 fl_X12_9 rfl (by decide) rfl ?_
          refine o_iconst dX12_burns_47 ?_
          refine o_dup2 dX12_burns_48 rfl rfl ?_
          refine o_ialdn (j := 2) dX12_burns_49 (by decide) rfl (by decide) (by first | rfl | omega) (by omega) ?_
          refine o_iload_n dX12_burns_50 rfl ?_
          refine o_if_eq (tgt := 63) dX12_burns_51 (by decide) ⟨by omega, by omega⟩ (fun _ => ?_) (fun c => absurd rfl c)
          refine o_iconst dX12_burns_63 ?_
          refine o_isub dX12_burns_64 ?_
          refine o_iaEn (j := 2) dX12_burns_65 rfl (by decide) (by decide) (by first | rfl | omega) (by omega) (fun _ => rfl) (by decide) (fun g_65 e_65 => ?_)
          have h_65 := sr_0_2' h1 e_65 (show g1 193 2 - 0 = Mi 0 2 by omega)
          rw [o_e_id rfl] at h_65
          refine o_aload_n dX12_burns_66 rfl ?_
          refine o_iload_n dX12_burns_67 rfl ?_
          refine o_iconst dX12_burns_68 ?_
          refine o_iload_n dX12_burns_69 rfl ?_
          refine o_if_eq (tgt := 77) dX12_burns_70 (by decide) ⟨by omega, by omega⟩ (fun _ => ?_) (fun c => absurd rfl c)
          refine o_iconst dX12_burns_77 ?_
          refine o_cVm _ (ct_X12_sets hl (d + 1) g_65 i 4 (by omega) (by decide) _) dX12_burns_78 ml_X12_66 yw_X12_sets rfl (by decide) (by omega) (by decide) rfl rfl rfl (Nat.le_of_ble_eq_true rfl) (fun g_78 q_78 => ?_)
          have h_78 := sr_8' h_65 hw2 hw5 q_78 (by omega) rfl
          refine o_aload_n dX12_burns_81 rfl ?_
          refine o_iload_n dX12_burns_82 rfl ?_
          refine o_iconst dX12_burns_83 ?_
          refine o_aload_n dX12_burns_84 rfl ?_
          refine o_iload_n dX12_burns_85 rfl ?_
          refine o_iconst dX12_burns_86 ?_
          refine o_cV _ (ct_X12_of hl (d + 1) g_78 i 3 (by omega) (by decide)) dX12_burns_87 ml_X12_58 yw_X12_of rfl (by decide) (by omega) (by decide) rfl rfl rfl (Nat.le_of_ble_eq_true rfl) ?_
          refine o_iload_n dX12_burns_90 rfl ?_
          refine o_if_eq (tgt := 98) dX12_burns_91 (by decide) ⟨by omega, by omega⟩ (fun _ => ?_) (fun c => absurd rfl c)
          refine o_iconst dX12_burns_98 ?_
          refine o_iadd dX12_burns_99 ?_
          refine o_cVm _ (ct_X12_sets hl (d + 1) g_78 i 3 (by omega) (by decide) _) dX12_burns_100 ml_X12_66 yw_X12_sets rfl (by decide) (by omega) (by decide) rfl rfl rfl (Nat.le_of_ble_eq_true rfl) (fun g_100 q_100 => ?_)
          have h_100 := sr_7' h_78 hw2 hw5 q_100 (by omega) (z := Mi 7 i) (by have t := (h_78.2.2.1 i hi9).2.2.2.1; have t2 : g_78 193 (25 + 5 * i + 3) = Mi 7 i := t; omega)
          rw [o_e_id (M := o_e Mi 8 i 0) (a := 7) (j := i) (z := Mi 7 i) rfl] at h_100
          refine o_iload_n dX12_burns_103 rfl ?_
          refine o_iload_n dX12_burns_104 rfl ?_
          refine o_if_eq (tgt := 112) dX12_burns_105 (by decide) ⟨by omega, by omega⟩ (fun _ => ?_) (fun c => absurd rfl c)
          refine o_iconst dX12_burns_112 ?_
          refine o_iadd dX12_burns_113 ?_
          refine o_istore_n dX12_burns_114 (by decide) ?_
          refine o_iinc dX12_burns_115 rfl (by decide) ?_
          refine o_goto (tgt := 4) dX12_burns_118 (by decide) ?_
          refine o_loc [(0, .ref 192), (1, .int (o_I (n_burn M (i + 1)))), (2, .int (o_I (((i + 1) : Nat) : Int)))] (by rw [en, o_b0 (fun q => by have := q.2; omega)]; rfl) (ih (by omega) g_100 (by rw [e9, m_burn1, if_neg (fun q => by have := q.2; omega)]; exact h_100) (o_fr_e' (o_fr_e' (o_fr_e' f1 e_65 (show o_mc _ from rfl)) q_78 (show o_mc _ from rfl)) q_100 (show o_mc _ from rfl)))
        · skip
          refine o_iconst dX12_burns_37 ?_
          refine o_goto (tgt := 42) dX12_burns_38 (by decide) ?_
          refine o_istore_n dX12_burns_42 (by decide) ?_
          refine o_aload_n dX12_burns_43 rfl ?_
          refine o_gf dX12_burns_44 fl_X12_9 rfl (by decide) rfl ?_
          refine o_iconst dX12_burns_47 ?_
          refine o_dup2 dX12_burns_48 rfl rfl ?_
          refine o_ialdn (j := 2) dX12_burns_49 (by decide) rfl (by decide) (by first | rfl | omega) (by omega) ?_
          refine o_iload_n dX12_burns_50 rfl ?_
          refine o_if_eq (tgt := 63) dX12_burns_51 (by decide) ⟨by omega, by omega⟩ (fun c => absurd c (by decide)) (fun _ => ?_)
          refine o_aload_n dX12_burns_54 rfl ?_
          refine o_iload_n dX12_burns_55 rfl ?_
          refine o_iconst dX12_burns_56 ?_
          refine o_cV _ (ct_X12_of hl (d + 1) g1 i 0 (by omega) (by decide)) dX12_burns_57 ml_X12_58 yw_X12_of rfl (by decide) (by omega) (by decide) rfl rfl rfl (Nat.le_of_ble_eq_true rfl) ?_
          refine o_goto (tgt := 64) dX12_burns_60 (by decide) ?_
          refine o_isub dX12_burns_64 ?_
          refine o_iaEn (j := 2) dX12_burns_65 rfl (by decide) (by decide) (by first | rfl | omega) (by omega) (fun _ => rfl) (by decide) (fun g_65 e_65 => ?_)
          have h_65 := sr_0_2' h1 e_65 (show g1 193 2 - g1 193 (25 + 5 * i + 0) = Mi 0 2 - Mi 4 i by omega)
          refine o_aload_n dX12_burns_66 rfl ?_
          refine o_iload_n dX12_burns_67 rfl ?_
          refine o_iconst dX12_burns_68 ?_
          refine o_iload_n dX12_burns_69 rfl ?_
          refine o_if_eq (tgt := 77) dX12_burns_70 (by decide) ⟨by omega, by omega⟩ (fun c => absurd c (by decide)) (fun _ => ?_)
          refine o_iconst dX12_burns_73 ?_
          refine o_goto (tgt := 78) dX12_burns_74 (by decide) ?_
          refine o_cVm _ (ct_X12_sets hl (d + 1) g_65 i 4 (by omega) (by decide) _) dX12_burns_78 ml_X12_66 yw_X12_sets rfl (by decide) (by omega) (by decide) rfl rfl rfl (Nat.le_of_ble_eq_true rfl) (fun g_78 q_78 => ?_)
          have h_78 := sr_8' h_65 hw2 hw5 q_78 (by omega) rfl
          refine o_aload_n dX12_burns_81 rfl ?_
          refine o_iload_n dX12_burns_82 rfl ?_
          refine o_iconst dX12_burns_83 ?_
          refine o_aload_n dX12_burns_84 rfl ?_
          refine o_iload_n dX12_burns_85 rfl ?_
          refine o_iconst dX12_burns_86 ?_
          refine o_cV _ (ct_X12_of hl (d + 1) g_78 i 3 (by omega) (by decide)) dX12_burns_87 ml_X12_58 yw_X12_of rfl (by decide) (by omega) (by decide) rfl rfl rfl (Nat.le_of_ble_eq_true rfl) ?_
          refine o_iload_n dX12_burns_90 rfl ?_
          refine o_if_eq (tgt := 98) dX12_burns_91 (by decide) ⟨by omega, by omega⟩ (fun c => absurd c (by decide)) (fun _ => ?_)
          refine o_iconst dX12_burns_94 ?_
          refine o_goto (tgt := 99) dX12_burns_95 (by decide) ?_
          refine o_iadd dX12_burns_99 ?_
          refine o_cVm _ (ct_X12_sets hl (d + 1) g_78 i 3 (by omega) (by decide) _) dX12_burns_100 ml_X12_66 yw_X12_sets rfl (by decide) (by omega) (by decide) rfl rfl rfl (Nat.le_of_ble_eq_true rfl) (fun g_100 q_100 => ?_)
          have h_100 := sr_7' h_78 hw2 hw5 q_100 (by omega) (z := Mi 7 i + 1) (by have t := (h_78.2.2.1 i hi9).2.2.2.1; have t2 : g_78 193 (25 + 5 * i + 3) = Mi 7 i := t; omega)
          rw [o_e_cm (a := 0) (b := 8) (by decide)] at h_100
          refine o_iload_n dX12_burns_103 rfl ?_
          refine o_iload_n dX12_burns_104 rfl ?_
          refine o_if_eq (tgt := 112) dX12_burns_105 (by decide) ⟨by omega, by omega⟩ (fun c => absurd c (by decide)) (fun _ => ?_)
          refine o_iconst dX12_burns_108 ?_
          refine o_goto (tgt := 113) dX12_burns_109 (by decide) ?_
          refine o_iadd dX12_burns_113 ?_
          refine o_istore_n dX12_burns_114 (by decide) ?_
          refine o_iinc dX12_burns_115 rfl (by decide) ?_
          refine o_goto (tgt := 4) dX12_burns_118 (by decide) ?_
          refine o_loc [(0, .ref 192), (1, .int (o_I (n_burn M (i + 1)))), (2, .int (o_I (((i + 1) : Nat) : Int)))] (by rw [en, o_b1 ⟨c_19, by omega⟩]; rfl) (ih (by omega) g_100 (by rw [e9, m_burn1, if_pos ⟨c_19, by omega⟩]; exact h_100) (o_fr_e' (o_fr_e' (o_fr_e' f1 e_65 (show o_mc _ from rfl)) q_78 (show o_mc _ from rfl)) q_100 (show o_mc _ from rfl))))
  refine o_iconst dX12_burns_0 ?_
  refine o_istore_n dX12_burns_1 (by decide) ?_
  refine o_iconst dX12_burns_2 ?_
  refine o_istore_n dX12_burns_3 (by decide) ?_
  exact o_loc _ rfl (key 0 (Nat.zero_le _) g hsr o_fr_r)
set_option maxRecDepth 100000 in
set_option maxHeartbeats 4000000 in
/-- fines() -/
theorem ct_X12_fines {l : Launch} (hl : l.stackTraces = false) (d : Nat) (g : Nat → Nat → Int) (M : Nat → Nat → Int) (hsr : o_sr (g 193) M) (hwk : o_wk M) : o_Ct l yX12_fines wX12_fines (d + 4) o_no [.ref 192] o_N (o_mem g) 0 0 (o_mt (none) (fun g' => o_sr (g' 193) (m_fines M) ∧ o_fr o_mc g g')) := by
  refine o_Ct.ofV hl mX12_fines (by decide +kernel) rfl rfl rfl (Nat.le_of_ble_eq_true rfl) ?_
  obtain ⟨⟨hr0, hr1, hr2, hr3, hr4, hr5, hr6⟩, hrs, hrl, hrq⟩ := id hsr
  obtain ⟨hws, hwl, hwq, hwo, hwle, hwrq, hwrd⟩ := id hwk
  obtain ⟨hw1, hw2, hw3⟩ := id hws
  obtain ⟨hw4, hw5, hw6, hw7, hw8⟩ := id hwl
  obtain ⟨hw9, hw10, hw11⟩ := id hwq
  have key := o_lp (fun i => ∀ g1, o_sg g1 (o_fd m_fine1 M i) → o_fr (o_mc) g g1 → o_V l mX12_fines (d + 4) o_no (o_mt (none) (fun g' => o_sr (g' 193) (m_fines M) ∧ o_fr o_mc g g')) 2 [(0, .ref 192), (1, .int (o_I ((i : Nat) : Int)))] [] o_N (o_mem g1) 0 0) (M 0 0).toNat (fun i hi ih g1 h1 f1 => by
    have e9 : o_fd m_fine1 M (i + 1) = m_fine1 (o_fd m_fine1 M i) i := rfl
    have ki := ke_fines hwk i hi
    obtain ⟨Mi, hMi⟩ : ∃ Mi, Mi = o_fd m_fine1 M i := ⟨_, rfl⟩
    rw [← hMi] at h1 ki e9
    obtain ⟨⟨hr0, hr1, hr2, hr3, hr4, hr5, hr6⟩, hrs, hrl, hrq⟩ := id h1
    obtain ⟨hws, hwl, hwq, hwo, hwle, hwrq, hwrd⟩ := id ki.1
    obtain ⟨hw1, hw2, hw3⟩ := id hws
    obtain ⟨hw4, hw5, hw6, hw7, hw8⟩ := id hwl
    obtain ⟨hw9, hw10, hw11⟩ := id hwq
    have hc9 := ki.2.1
    refine o_iload_n dX12_fines_2 rfl ?_
    refine o_aload_n dX12_fines_3 rfl ?_
    refine o_gf dX12_fines_4 fl_X12_9 rfl (by decide) rfl ?_
    refine o_iconst dX12_fines_7 ?_
    refine o_ialdn (j := 0) dX12_fines_8 (by decide) rfl (by decide) (by first | rfl | omega) (by omega) ?_
    refine o_icmp_ge (tgt := 91) dX12_fines_9 (by decide) ⟨by omega, by omega⟩ ⟨by omega, by omega⟩ (fun c_9 => ?_) (fun c_9 => ?_)
    · skip
      refine o_ret0 dX12_fines_91 trivial ?_
      exact o_mt0 ⟨by have e : i = (M 0 0).toNat := by omega
                      rw [hMi, e] at h1; exact h1, f1⟩
    · skip
      have hi9 : (i : Int) < Mi 0 0 := by omega
      have hb8 := hw3 i hi9
      have hs8 := hrs i hi9
      have hcn : 0 ≤ m_cnt Mi i ∧ m_cnt Mi i ≤ 8 := by have := o_sm_b (fun j => Mi 5 j = (i : Int) + 1) (Mi 0 1).toNat; unfold m_cnt; omega
      have han : 0 ≤ m_any Mi i ∧ m_any Mi i ≤ 8 := by have := o_sm_b (fun j => Mi 5 j = (i : Int) + 1 ∧ Mi 8 j = 1) (Mi 0 1).toNat; unfold m_any; omega
      refine o_aload_n dX12_fines_12 rfl ?_
      refine o_iload_n dX12_fines_13 rfl ?_
      refine o_iconst dX12_fines_14 ?_
      refine o_cV _ (ct_lampsOf0 hl d g1 Mi h1 ki.1 i hi9) dX12_fines_15 ml_X12_120 yw_X12_lampsOf rfl (by decide) (by omega) (by decide) rfl rfl rfl (Nat.le_of_ble_eq_true rfl) ?_
      refine o_istore_n dX12_fines_18 (by decide) ?_
      refine o_iload_n dX12_fines_19 rfl ?_
      refine o_if_le (tgt := 85) dX12_fines_20 (by decide) ⟨by omega, by omega⟩ (fun c_20 => ?_) (fun c_20 => ?_)
      · skip
        refine o_iinc dX12_fines_85 rfl (by decide) ?_
        refine o_goto (tgt := 2) dX12_fines_88 (by decide) ?_
        refine o_loc [(0, .ref 192), (1, .int (o_I (((i + 1) : Nat) : Int)))] rfl (ih (by omega) g1 (by rw [e9, m_fine1, if_neg (fun q => by have := q.1; omega)]; exact h1) f1)
      · skip
        refine o_aload_n dX12_fines_23 rfl ?_
        refine o_iload_n dX12_fines_24 rfl ?_
        refine o_iconst dX12_fines_25 ?_
        refine o_cV _ (ct_lampsOf1 hl d g1 Mi h1 ki.1 i hi9) dX12_fines_26 ml_X12_120 yw_X12_lampsOf rfl (by decide) (by omega) (by decide) rfl rfl rfl (Nat.le_of_ble_eq_true rfl) ?_
        refine o_if_ne (tgt := 85) dX12_fines_29 (by decide) ⟨by omega, by omega⟩ (fun c_29 => ?_) (fun c_29 => ?_)
        · skip
          refine o_iinc dX12_fines_85 rfl (by decide) ?_
          refine o_goto (tgt := 2) dX12_fines_88 (by decide) ?_
          refine o_loc [(0, .ref 192), (1, .int (o_I (((i + 1) : Nat) : Int)))] rfl (ih (by omega) g1 (by rw [e9, m_fine1, if_neg (fun q => by have := q.2; omega)]; exact h1) f1)
        · skip
          refine o_iconst dX12_fines_32 ?_
          refine o_iload_n dX12_fines_33 rfl ?_
          refine o_imul dX12_fines_34 ?_
          refine o_aload_n dX12_fines_35 rfl ?_
          refine o_iload_n dX12_fines_36 rfl ?_
          refine o_iconst dX12_fines_37 ?_
          refine o_cV _ (ct_X12_ofShip hl (d + 2) g1 i 0 (by omega) (by decide)) dX12_fines_38 ml_X12_99 yw_X12_ofShip rfl (by decide) (by omega) (by decide) rfl rfl rfl (Nat.le_of_ble_eq_true rfl) ?_
          rw [show g1 193 (7 + 3 * i + 0) = Mi 1 i from hs8.1]
          refine o_mmin dX12_fines_41 ml_X12_124 o_minS.1 o_minS.2.1 o_minS.2.2 ⟨by omega, by omega⟩ ⟨by omega, by omega⟩ (Nat.le_of_ble_eq_true rfl) ?_
          refine o_istore_n dX12_fines_44 (by decide) ?_
          refine o_aload_n dX12_fines_45 rfl ?_
          refine o_iload_n dX12_fines_46 rfl ?_
          refine o_iload_n dX12_fines_47 rfl ?_
          refine o_cVm _ (ct_X12_pays hl (d + 2) g1 Mi h1 ki.1 i hi9 (min (2 * m_cnt Mi i) (Mi 1 i))) dX12_fines_48 ml_X12_102 yw_X12_pays rfl (by decide) (by omega) (by decide) rfl rfl rfl (Nat.le_of_ble_eq_true rfl) (fun g_48 q_48 => ?_)
          refine o_aload_n dX12_fines_51 rfl ?_
          refine o_gf dX12_fines_52 fl_X12_9 rfl (by decide) rfl ?_
          refine o_bipush dX12_fines_55 (by decide) ?_
          refine o_iconst dX12_fines_57 ?_
          refine o_iload_n dX12_fines_58 rfl ?_
          refine o_imul dX12_fines_59 ?_
          refine o_iadd dX12_fines_60 ?_
          refine o_iconst dX12_fines_61 ?_
          refine o_iadd dX12_fines_62 ?_
          refine o_dup2 dX12_fines_63 rfl rfl ?_
          refine o_ialdn (j := (7 + 3 * i + 1)) dX12_fines_64 (by decide) rfl (by decide) (by first | rfl | omega) (by omega) ?_
          refine o_iload_n dX12_fines_65 rfl ?_
          refine o_iadd dX12_fines_66 ?_
          refine o_iaEn (j := (7 + 3 * i + 1)) dX12_fines_67 rfl (by decide) (by decide) (by first | rfl | omega) (by omega) (fun _ => rfl) (by decide) (fun g_67 e_67 => ?_)
          have h_67 := sr_2' q_48.1 hw2 hw5 e_67 (by omega) (show g_48 193 (7 + 3 * i + 1) + min (2 * m_cnt Mi i) (Mi 1 i) = Mi 2 i + min (2 * m_cnt Mi i) (Mi 1 i) by have t3 := (q_48.1.2.1 i hi9).2.1; have t4 : g_48 193 (7 + 3 * i + 1) = Mi 2 i := t3; omega)
          refine o_aload_n dX12_fines_68 rfl ?_
          refine o_gf dX12_fines_69 fl_X12_9 rfl (by decide) rfl ?_
          refine o_bipush dX12_fines_72 (by decide) ?_
          refine o_iconst dX12_fines_74 ?_
          refine o_iload_n dX12_fines_75 rfl ?_
          refine o_imul dX12_fines_76 ?_
          refine o_iadd dX12_fines_77 ?_
          refine o_iconst dX12_fines_78 ?_
          refine o_iadd dX12_fines_79 ?_
          refine o_dup2 dX12_fines_80 rfl rfl ?_
          refine o_ialdn (j := (7 + 3 * i + 2)) dX12_fines_81 (by decide) rfl (by decide) (by first | rfl | omega) (by omega) ?_
          refine o_iconst dX12_fines_82 ?_
          refine o_iadd dX12_fines_83 ?_
          refine o_iaEn (j := (7 + 3 * i + 2)) dX12_fines_84 rfl (by decide) (by decide) (by first | rfl | omega) (by omega) (fun _ => rfl) (by decide) (fun g_84 e_84 => ?_)
          have h_84 := sr_3' h_67 hw2 hw5 e_84 (by omega) (show g_67 193 (7 + 3 * i + 2) + 1 = Mi 3 i + 1 by have t3 := (h_67.2.1 i hi9).2.2; have t4 : g_67 193 (7 + 3 * i + 2) = Mi 3 i := t3; omega)
          refine o_iinc dX12_fines_85 rfl (by decide) ?_
          refine o_goto (tgt := 2) dX12_fines_88 (by decide) ?_
          refine o_loc [(0, .ref 192), (1, .int (o_I (((i + 1) : Nat) : Int)))] rfl (ih (by omega) g_84 (by rw [e9, m_fine1, if_pos ⟨by omega, by omega⟩]; exact h_84) (o_fr_e' (o_fr_e' (o_fr_t f1 q_48.2) e_67 (show o_mc _ from rfl)) e_84 (show o_mc _ from rfl))))
  refine o_iconst dX12_fines_0 ?_
  refine o_istore_n dX12_fines_1 (by decide) ?_
  exact o_loc _ rfl (key 0 (Nat.zero_le _) g hsr o_fr_r)
set_option maxRecDepth 100000 in
set_option maxHeartbeats 4000000 in
theorem o_endLoop {l : Launch} (hl : l.stackTraces = false) (d : Nat) (g0 : Nat → Nat → Int) (g : Nat → Nat → Int) (M : Nat → Nat → Int) (hsr : o_sr (g 193) M) (hwk : o_wk M) (f0 : o_fr o_mc g0 g) : o_V l mX12_endsLeases (d + 3) o_no (o_mt (some (.int (o_I (n_end M (M 0 1).toNat)))) (fun g' => o_sr (g' 193) (m_ends M) ∧ o_fr o_mc g0 g')) 14 [(0, .ref 192), (1, .int (o_I (n_end M 0))), (2, .int (o_I ((0 : Nat) : Int)))] [] o_N (o_mem g) 0 0 := by
  obtain ⟨⟨hr0, hr1, hr2, hr3, hr4, hr5, hr6⟩, hrs, hrl, hrq⟩ := id hsr
  obtain ⟨hws, hwl, hwq, hwo, hwle, hwrq, hwrd⟩ := id hwk
  obtain ⟨hw1, hw2, hw3⟩ := id hws
  obtain ⟨hw4, hw5, hw6, hw7, hw8⟩ := id hwl
  obtain ⟨hw9, hw10, hw11⟩ := id hwq
  have key := o_lp (fun i => ∀ g1, o_sg g1 (o_fd m_end1 M i) → o_fr o_mc g0 g1 → o_V l mX12_endsLeases (d + 3) o_no (o_mt (some (.int (o_I (n_end M (M 0 1).toNat)))) (fun g' => o_sr (g' 193) (m_ends M) ∧ o_fr o_mc g0 g')) 14 [(0, .ref 192), (1, .int (o_I (n_end M i))), (2, .int (o_I ((i : Nat) : Int)))] [] o_N (o_mem g1) 0 0) (M 0 1).toNat (fun i hi ih g1 h1 f1 => by
    have e9 : o_fd m_end1 M (i + 1) = m_end1 (o_fd m_end1 M i) i := rfl
    have ki := ke_ends hwk i hi
    obtain ⟨Mi, hMi⟩ : ∃ Mi, Mi = o_fd m_end1 M i := ⟨_, rfl⟩
    rw [← hMi] at h1 ki e9
    obtain ⟨⟨hr0, hr1, hr2, hr3, hr4, hr5, hr6⟩, hrs, hrl, hrq⟩ := id h1
    obtain ⟨hws, hwl, hwq, hwo, hwle, hwrq, hwrd⟩ := id ki.1
    obtain ⟨hw1, hw2, hw3⟩ := id hws
    obtain ⟨hw4, hw5, hw6, hw7, hw8⟩ := id hwl
    obtain ⟨hw9, hw10, hw11⟩ := id hwq
    have hc9 := ki.2.2.1
    have en : n_end M (i + 1) = n_end M i + o_b (0 < Mi 5 i ∧ Mi 6 i = Mi 0 3) := by rw [hMi]; rfl
    refine o_iload_n dX12_endsLeases_14 rfl ?_
    refine o_aload_n dX12_endsLeases_15 rfl ?_
    refine o_gf dX12_endsLeases_16 fl_X12_9 rfl (by decide) rfl ?_
    refine o_iconst dX12_endsLeases_19 ?_
    refine o_ialdn (j := 1) dX12_endsLeases_20 (by decide) rfl (by decide) (by first | rfl | omega) (by omega) ?_
    refine o_icmp_ge (tgt := 61) dX12_endsLeases_21 (by decide) ⟨by omega, by omega⟩ ⟨by omega, by omega⟩ (fun c_21 => ?_) (fun c_21 => ?_)
    · skip
      refine o_iload_n dX12_endsLeases_61 rfl ?_
      refine o_ret1 dX12_endsLeases_62 trivial ?_
      have e : i = (M 0 1).toNat := by omega
      rw [hMi] at h1
      rw [e] at h1 ⊢
      exact o_mtI rfl ⟨h1, f1⟩
    · skip
      have hi9 : (i : Int) < Mi 0 1 := by omega
      have hb8 := hw8 i hi9
      have hl8 := hrl i hi9
      refine o_aload_n dX12_endsLeases_24 rfl ?_
      refine o_iload_n dX12_endsLeases_25 rfl ?_
      refine o_cV _ (ct_X12_isOut hl d g1 Mi h1 ki.1 i hi9) dX12_endsLeases_26 ml_X12_96 yw_X12_isOut rfl (by decide) (by omega) (by decide) rfl rfl rfl (Nat.le_of_ble_eq_true rfl) ?_
      refine o_ifb_eq (tgt := 55) dX12_endsLeases_29 (by decide) (fun c_29 => ?_) (fun c_29 => ?_)
      · skip
        refine o_iinc dX12_endsLeases_55 rfl (by decide) ?_
        refine o_goto (tgt := 14) dX12_endsLeases_58 (by decide) ?_
        refine o_loc [(0, .ref 192), (1, .int (o_I (n_end M (i + 1)))), (2, .int (o_I (((i + 1) : Nat) : Int)))] (by rw [en, o_b0 (fun q => c_29 q.1), Int.add_zero]; rfl) (ih (by omega) g1 (by rw [e9, m_end1, if_neg (fun q => c_29 q.1)]; exact h1) f1)
      · skip
        refine o_aload_n dX12_endsLeases_32 rfl ?_
        refine o_iload_n dX12_endsLeases_33 rfl ?_
        refine o_iconst dX12_endsLeases_34 ?_
        refine o_cV _ (ct_X12_of hl (d + 1) g1 i 2 (by omega) (by decide)) dX12_endsLeases_35 ml_X12_58 yw_X12_of rfl (by decide) (by omega) (by decide) rfl rfl rfl (Nat.le_of_ble_eq_true rfl) ?_
        refine o_aload_n dX12_endsLeases_38 rfl ?_
        refine o_gf dX12_endsLeases_39 fl_X12_9 rfl (by decide) rfl ?_
        refine o_iconst dX12_endsLeases_42 ?_
        refine o_ialdn (j := 3) dX12_endsLeases_43 (by decide) rfl (by decide) (by first | rfl | omega) (by omega) ?_
        refine o_icmp_ne (tgt := 55) dX12_endsLeases_44 (by decide) ⟨by omega, by omega⟩ ⟨by omega, by omega⟩ (fun c_44 => ?_) (fun c_44 => ?_)
        · skip
          refine o_iinc dX12_endsLeases_55 rfl (by decide) ?_
          refine o_goto (tgt := 14) dX12_endsLeases_58 (by decide) ?_
          refine o_loc [(0, .ref 192), (1, .int (o_I (n_end M (i + 1)))), (2, .int (o_I (((i + 1) : Nat) : Int)))] (by rw [en, o_b0 (fun q => c_44 (by omega)), Int.add_zero]; rfl) (ih (by omega) g1 (by rw [e9, m_end1, if_neg (fun q => c_44 (by omega))]; exact h1) f1)
        · skip
          refine o_aload_n dX12_endsLeases_47 rfl ?_
          refine o_iload_n dX12_endsLeases_48 rfl ?_
          refine o_cVm _ (ct_X12_frees hl d g1 Mi h1 ki.1 i hi9) dX12_endsLeases_49 ml_X12_113 yw_X12_frees rfl (by decide) (by omega) (by decide) rfl rfl rfl (Nat.le_of_ble_eq_true rfl) (fun g_49 q_49 => ?_)
          refine o_iinc dX12_endsLeases_52 rfl (by decide) ?_
          refine o_iinc dX12_endsLeases_55 rfl (by decide) ?_
          refine o_goto (tgt := 14) dX12_endsLeases_58 (by decide) ?_
          refine o_loc [(0, .ref 192), (1, .int (o_I (n_end M (i + 1)))), (2, .int (o_I (((i + 1) : Nat) : Int)))] (by rw [en, o_b1 ⟨c_29, by omega⟩]; rfl) (ih (by omega) g_49 (by rw [e9, m_end1, if_pos ⟨c_29, by omega⟩]; exact q_49.1) (o_fr_t f1 q_49.2)))
  exact key 0 (Nat.zero_le _) g hsr f0
set_option maxRecDepth 100000 in
set_option maxHeartbeats 4000000 in
/-- endsLeases() -/
theorem ct_X12_endsLeases {l : Launch} (hl : l.stackTraces = false) (d : Nat) (g : Nat → Nat → Int) (M : Nat → Nat → Int) (hsr : o_sr (g 193) M) (hwk : o_wk M) (hh : M 0 3 < 2000000) : o_Ct l yX12_endsLeases wX12_endsLeases (d + 3) o_no [.ref 192] o_N (o_mem g) 0 0 (o_mt (some (.int (o_I (n_end (m_tick M) (m_tick M 0 1).toNat)))) (fun g' => o_sr (g' 193) (m_ends (m_tick M)) ∧ o_fr o_mc g g')) := by
  refine o_Ct.ofV hl mX12_endsLeases (by decide +kernel) rfl rfl rfl (Nat.le_of_ble_eq_true rfl) ?_
  obtain ⟨⟨hr0, hr1, hr2, hr3, hr4, hr5, hr6⟩, hrs, hrl, hrq⟩ := id hsr
  obtain ⟨hws, hwl, hwq, hwo, hwle, hwrq, hwrd⟩ := id hwk
  obtain ⟨hw1, hw2, hw3⟩ := id hws
  obtain ⟨hw4, hw5, hw6, hw7, hw8⟩ := id hwl
  obtain ⟨hw9, hw10, hw11⟩ := id hwq
  refine o_iconst dX12_endsLeases_0 ?_
  refine o_istore_n dX12_endsLeases_1 (by decide) ?_
  refine o_aload_n dX12_endsLeases_2 rfl ?_
  refine o_gf dX12_endsLeases_3 fl_X12_9 rfl (by decide) rfl ?_
  refine o_iconst dX12_endsLeases_6 ?_
  refine o_dup2 dX12_endsLeases_7 rfl rfl ?_
  refine o_ialdn (j := 3) dX12_endsLeases_8 (by decide) rfl (by decide) (by first | rfl | omega) (by omega) ?_
  refine o_iconst dX12_endsLeases_9 ?_
  refine o_iadd dX12_endsLeases_10 ?_
  refine o_iaEn (j := 3) dX12_endsLeases_11 rfl (by decide) (by decide) (by first | rfl | omega) (by omega) (fun _ => rfl) (by decide) (fun g_11 e_11 => ?_)
  have h_11 := sr_0_3' hsr e_11 (show g 193 3 + 1 = M 0 3 + 1 by omega)
  refine o_iconst dX12_endsLeases_12 ?_
  refine o_istore_n dX12_endsLeases_13 (by decide) ?_
  exact o_loc _ rfl (o_endLoop hl d g g_11 (m_tick M) h_11 (wk_03 hwk hh) (o_fr_e' o_fr_r e_11 (show o_mc _ from rfl)))
set_option maxRecDepth 100000 in
set_option maxHeartbeats 4000000 in
/-- renews() -/
theorem ct_X12_renews {l : Launch} (hl : l.stackTraces = false) (d : Nat) (g : Nat → Nat → Int) (M : Nat → Nat → Int) (hsr : o_sr (g 193) M) (hwk : o_wk M) : o_Ct l yX12_renews wX12_renews (d + 4) o_no [.ref 192] o_N (o_mem g) 0 0 (o_mt (none) (fun g' => o_sr (g' 193) (m_renews M) ∧ o_fr o_mc g g')) := by
  refine o_Ct.ofV hl mX12_renews (by decide +kernel) rfl rfl rfl (Nat.le_of_ble_eq_true rfl) ?_
  obtain ⟨⟨hr0, hr1, hr2, hr3, hr4, hr5, hr6⟩, hrs, hrl, hrq⟩ := id hsr
  obtain ⟨hws, hwl, hwq, hwo, hwle, hwrq, hwrd⟩ := id hwk
  obtain ⟨hw1, hw2, hw3⟩ := id hws
  obtain ⟨hw4, hw5, hw6, hw7, hw8⟩ := id hwl
  obtain ⟨hw9, hw10, hw11⟩ := id hwq
  have key := o_lp (fun i => ∀ g1, o_sg g1 (o_fd m_renew1' M i) → o_fr (o_mc) g g1 → o_V l mX12_renews (d + 4) o_no (o_mt (none) (fun g' => o_sr (g' 193) (m_renews M) ∧ o_fr o_mc g g')) 2 [(0, .ref 192), (1, .int (o_I ((i : Nat) : Int)))] [] o_N (o_mem g1) 0 0) (M 0 6).toNat (fun i hi ih g1 h1 f1 => by
    have e9 : o_fd m_renew1' M (i + 1) = m_renew1' (o_fd m_renew1' M i) i := rfl
    have ki := (ke_renews hwk i hi).1
    obtain ⟨Mi, hMi⟩ : ∃ Mi, Mi = o_fd m_renew1' M i := ⟨_, rfl⟩
    rw [← hMi] at h1 ki e9
    have hc9 : Mi 0 6 = M 0 6 := by rw [hMi]; exact (ke_renews hwk i hi).2.1
    obtain ⟨⟨hr0, hr1, hr2, hr3, hr4, hr5, hr6⟩, hrs, hrl, hrq⟩ := id h1
    obtain ⟨hws, hwl, hwq, hwo, hwle, hwrq, hwrd⟩ := id ki.1
    obtain ⟨hw1, hw2, hw3⟩ := id hws
    obtain ⟨hw4, hw5, hw6, hw7, hw8⟩ := id hwl
    obtain ⟨hw9, hw10, hw11⟩ := id hwq
    refine o_iload_n dX12_renews_2 rfl ?_
    refine o_aload_n dX12_renews_3 rfl ?_
    refine o_gf dX12_renews_4 fl_X12_9 rfl (by decide) rfl ?_
    refine o_bipush dX12_renews_7 (by decide) ?_
    refine o_ialdn (j := 6) dX12_renews_9 (by decide) rfl (by decide) (by first | rfl | omega) (by omega) ?_
    refine o_icmp_ge (tgt := 143) dX12_renews_10 (by decide) ⟨by omega, by omega⟩ ⟨by omega, by omega⟩ (fun c_10 => ?_) (fun c_10 => ?_)
    · skip
      refine o_aload_n dX12_renews_143 rfl ?_
      refine o_gf dX12_renews_144 fl_X12_9 rfl (by decide) rfl ?_
      refine o_bipush dX12_renews_147 (by decide) ?_
      refine o_iconst dX12_renews_149 ?_
      refine o_iaEn (j := 6) dX12_renews_150 rfl (by decide) (by decide) (by first | rfl | omega) (by omega) (fun _ => rfl) (by decide) (fun g_150 e_150 => ?_)
      refine o_ret0 dX12_renews_151 trivial ?_
      exact o_mt0 ⟨by have e : i = (M 0 6).toNat := by omega
                      have t := sr_06' h1 e_150 rfl (by omega)
                      rw [hMi, e] at t; exact t, o_fr_e' f1 e_150 (show o_mc _ from rfl)⟩
    · skip
      have hi9 : (i : Int) < Mi 0 6 := by omega
      have hq9 := hw11 i hi9
      have hlsd := hwrq i hi9
      have hqi := hrq i hi9
      obtain ⟨x, hx⟩ : ∃ x : Nat, (x : Int) = Mi 9 i := ⟨(Mi 9 i).toNat, by omega⟩
      have hx8 : (Mi 9 i).toNat = x := by omega
      rw [hx8] at hlsd
      have hx9 : (x : Int) < Mi 0 1 := by omega
      have hb8 := hw8 x hx9
      have hl8 := hrl x hx9
      obtain ⟨s, hs8⟩ : ∃ s : Nat, (s : Int) = Mi 5 x - 1 := ⟨(Mi 5 x - 1).toNat, by omega⟩
      have hsx : (Mi 5 x - 1).toNat = s := by omega
      have hs9 : (s : Int) < Mi 0 0 := by omega
      have hss := hrs s hs9
      have hwss := hw3 s hs9
      have hpr := o_pr hb8.1.1 hb8.1.2 hq9.2.1 hq9.2.2
      refine o_aload_n dX12_renews_13 rfl ?_
      refine o_gf dX12_renews_14 fl_X12_9 rfl (by decide) rfl ?_
      refine o_bipush dX12_renews_17 (by decide) ?_
      refine o_iconst dX12_renews_19 ?_
      refine o_iload_n dX12_renews_20 rfl ?_
      refine o_imul dX12_renews_21 ?_
      refine o_iadd dX12_renews_22 ?_
      refine o_ialdn (j := (65 + 2 * i)) dX12_renews_23 (by decide) rfl (by decide) (by first | rfl | omega) (by omega) ?_
      rw [show g1 193 (65 + 2 * i) = ((x : Nat) : Int) by omega]
      refine o_istore_n dX12_renews_24 (by decide) ?_
      refine o_aload_n dX12_renews_25 rfl ?_
      refine o_gf dX12_renews_26 fl_X12_9 rfl (by decide) rfl ?_
      refine o_bipush dX12_renews_29 (by decide) ?_
      refine o_iconst dX12_renews_31 ?_
      refine o_iload_n dX12_renews_32 rfl ?_
      refine o_imul dX12_renews_33 ?_
      refine o_iadd dX12_renews_34 ?_
      refine o_iconst dX12_renews_35 ?_
      refine o_iadd dX12_renews_36 ?_
      refine o_ialdn (j := (65 + 2 * i + 1)) dX12_renews_37 (by decide) rfl (by decide) (by first | rfl | omega) (by omega) ?_
      rw [show g1 193 (65 + 2 * i + 1) = Mi 10 i by omega]
      refine o_istore_n dX12_renews_38 (by decide) ?_
      refine o_aload_n dX12_renews_39 rfl ?_
      refine o_iload_n dX12_renews_40 rfl ?_
      refine o_iconst dX12_renews_41 ?_
      refine o_cV _ (ct_X12_of hl (d + 2) g1 x 1 (by omega) (by decide)) dX12_renews_42 ml_X12_58 yw_X12_of rfl (by decide) (by omega) (by decide) rfl rfl rfl (Nat.le_of_ble_eq_true rfl) ?_
      refine o_iconst dX12_renews_45 ?_
      refine o_isub dX12_renews_46 ?_
      rw [show g1 193 (25 + 5 * x + 1) - 1 = ((s : Nat) : Int) by omega]
      refine o_istore dX12_renews_47 (by decide) ?_
      refine o_aload_n dX12_renews_49 rfl ?_
      refine o_iload_n dX12_renews_50 rfl ?_
      refine o_iconst dX12_renews_51 ?_
      refine o_cV _ (ct_X12_of hl (d + 2) g1 x 0 (by omega) (by decide)) dX12_renews_52 ml_X12_58 yw_X12_of rfl (by decide) (by omega) (by decide) rfl rfl rfl (Nat.le_of_ble_eq_true rfl) ?_
      refine o_iload_n dX12_renews_55 rfl ?_
      rw [show g1 193 (25 + 5 * x + 0) = Mi 4 x from hl8.1]
      refine o_imul dX12_renews_56 ?_
      refine o_istore dX12_renews_57 (by decide) ?_
      refine o_aload_n dX12_renews_59 rfl ?_
      refine o_iload dX12_renews_60 rfl ?_
      refine o_iconst dX12_renews_62 ?_
      refine o_cV _ (ct_X12_ofShip hl (d + 2) g1 s 0 (by omega) (by decide)) dX12_renews_63 ml_X12_99 yw_X12_ofShip rfl (by decide) (by omega) (by decide) rfl rfl rfl (Nat.le_of_ble_eq_true rfl) ?_
      rw [show g1 193 (7 + 3 * s + 0) = Mi 1 s from hss.1]
      refine o_iload dX12_renews_66 rfl ?_
      refine o_icmp_lt (tgt := 75) dX12_renews_68 (by decide) ⟨by omega, by omega⟩ ⟨by omega, by omega⟩ (fun c_68 => ?_) (fun c_68 => ?_)
      · skip
        refine o_iconst dX12_renews_75 ?_
        refine o_istore dX12_renews_76 (by decide) ?_
        refine o_aload_n dX12_renews_78 rfl ?_
        refine o_iload dX12_renews_79 rfl ?_
        refine o_iload dX12_renews_81 rfl ?_
        refine o_if_eq (tgt := 91) dX12_renews_83 (by decide) ⟨by omega, by omega⟩ (fun _ => ?_) (fun c => absurd rfl c)
        refine o_iconst dX12_renews_91 ?_
        refine o_cVm _ (ct_X12_pays hl (d + 2) g1 Mi h1 ki.1 s hs9 _) dX12_renews_92 ml_X12_102 yw_X12_pays rfl (by decide) (by omega) (by decide) rfl rfl rfl (Nat.le_of_ble_eq_true rfl) (fun g_92 q_92 => ?_)
        have h_92 := q_92.1
        rw [show m_pay Mi s 0 = Mi by unfold m_pay; rw [Int.sub_zero, o_e_id rfl, Int.add_zero, o_e_id rfl]] at h_92
        refine o_aload_n dX12_renews_95 rfl ?_
        refine o_iload_n dX12_renews_96 rfl ?_
        refine o_iconst dX12_renews_97 ?_
        refine o_aload_n dX12_renews_98 rfl ?_
        refine o_iload_n dX12_renews_99 rfl ?_
        refine o_iconst dX12_renews_100 ?_
        refine o_cV _ (ct_X12_of hl (d + 2) g_92 x 2 (by omega) (by decide)) dX12_renews_101 ml_X12_58 yw_X12_of rfl (by decide) (by omega) (by decide) rfl rfl rfl (Nat.le_of_ble_eq_true rfl) ?_
        refine o_iload dX12_renews_104 rfl ?_
        refine o_if_eq (tgt := 113) dX12_renews_106 (by decide) ⟨by omega, by omega⟩ (fun _ => ?_) (fun c => absurd rfl c)
        refine o_iconst dX12_renews_113 ?_
        refine o_iadd dX12_renews_114 ?_
        refine o_cVm _ (ct_X12_sets hl (d + 2) g_92 x 2 (by omega) (by decide) _) dX12_renews_115 ml_X12_66 yw_X12_sets rfl (by decide) (by omega) (by decide) rfl rfl rfl (Nat.le_of_ble_eq_true rfl) (fun g_115 q_115 => ?_)
        have h_115 := sr_6' h_92 hw2 hw5 q_115 (by omega) (z := Mi 6 x) (by have t := (h_92.2.2.1 x hx9).2.2.1; have t2 : g_92 193 (25 + 5 * x + 2) = Mi 6 x := t; omega)
        rw [o_e_id rfl] at h_115
        refine o_aload_n dX12_renews_118 rfl ?_
        refine o_gf dX12_renews_119 fl_X12_9 rfl (by decide) rfl ?_
        refine o_iconst dX12_renews_122 ?_
        refine o_dup2 dX12_renews_123 rfl rfl ?_
        refine o_ialdn (j := 4) dX12_renews_124 (by decide) rfl (by decide) (by first | rfl | omega) (by omega) ?_
        refine o_iload dX12_renews_125 rfl ?_
        refine o_if_eq (tgt := 134) dX12_renews_127 (by decide) ⟨by omega, by omega⟩ (fun _ => ?_) (fun c => absurd rfl c)
        refine o_iconst dX12_renews_134 ?_
        refine o_iadd dX12_renews_135 ?_
        refine o_iaEn (j := 4) dX12_renews_136 rfl (by decide) (by decide) (by first | rfl | omega) (by omega) (fun _ => rfl) (by decide) (fun g_136 e_136 => ?_)
        have h_136 := sr_0_4' h_115 e_136 (show g_115 193 4 + 1 = Mi 0 4 + 1 by have t := h_115.1.2.2.2.2.1; have t2 : g_115 193 4 = Mi 0 4 := t; omega)
        refine o_iinc dX12_renews_137 rfl (by decide) ?_
        refine o_goto (tgt := 2) dX12_renews_140 (by decide) ?_
        refine o_loc [(0, .ref 192), (1, .int (o_I (((i + 1) : Nat) : Int)))] rfl (ih (by omega) g_136 (by rw [e9, m_renew1', hx8, m_renew1, hsx, if_neg (by omega)]; exact h_136) (o_fr_e' (o_fr_e' (o_fr_t f1 q_92.2) q_115 (show o_mc _ from rfl)) e_136 (show o_mc _ from rfl)))
      · skip
        refine o_iconst dX12_renews_71 ?_
        refine o_goto (tgt := 76) dX12_renews_72 (by decide) ?_
        refine o_istore dX12_renews_76 (by decide) ?_
        refine o_aload_n dX12_renews_78 rfl ?_
        refine o_iload dX12_renews_79 rfl ?_
        refine o_iload dX12_renews_81 rfl ?_
        refine o_if_eq (tgt := 91) dX12_renews_83 (by decide) ⟨by omega, by omega⟩ (fun c => absurd c (by decide)) (fun _ => ?_)
        refine o_iload dX12_renews_86 rfl ?_
        refine o_goto (tgt := 92) dX12_renews_88 (by decide) ?_
        refine o_cVm _ (ct_X12_pays hl (d + 2) g1 Mi h1 ki.1 s hs9 _) dX12_renews_92 ml_X12_102 yw_X12_pays rfl (by decide) (by omega) (by decide) rfl rfl rfl (Nat.le_of_ble_eq_true rfl) (fun g_92 q_92 => ?_)
        have h_92 := q_92.1
        refine o_aload_n dX12_renews_95 rfl ?_
        refine o_iload_n dX12_renews_96 rfl ?_
        refine o_iconst dX12_renews_97 ?_
        refine o_aload_n dX12_renews_98 rfl ?_
        refine o_iload_n dX12_renews_99 rfl ?_
        refine o_iconst dX12_renews_100 ?_
        refine o_cV _ (ct_X12_of hl (d + 2) g_92 x 2 (by omega) (by decide)) dX12_renews_101 ml_X12_58 yw_X12_of rfl (by decide) (by omega) (by decide) rfl rfl rfl (Nat.le_of_ble_eq_true rfl) ?_
        refine o_iload dX12_renews_104 rfl ?_
        refine o_if_eq (tgt := 113) dX12_renews_106 (by decide) ⟨by omega, by omega⟩ (fun c => absurd c (by decide)) (fun _ => ?_)
        refine o_iload_n dX12_renews_109 rfl ?_
        refine o_goto (tgt := 114) dX12_renews_110 (by decide) ?_
        refine o_iadd dX12_renews_114 ?_
        refine o_cVm _ (ct_X12_sets hl (d + 2) g_92 x 2 (by omega) (by decide) _) dX12_renews_115 ml_X12_66 yw_X12_sets rfl (by decide) (by omega) (by decide) rfl rfl rfl (Nat.le_of_ble_eq_true rfl) (fun g_115 q_115 => ?_)
        have h_115 := sr_6' h_92 hw2 hw5 q_115 (by omega) (z := Mi 6 x + Mi 10 i) (by have t := (h_92.2.2.1 x hx9).2.2.1; have t2 : g_92 193 (25 + 5 * x + 2) = Mi 6 x := t; omega)
        refine o_aload_n dX12_renews_118 rfl ?_
        refine o_gf dX12_renews_119 fl_X12_9 rfl (by decide) rfl ?_
        refine o_iconst dX12_renews_122 ?_
        refine o_dup2 dX12_renews_123 rfl rfl ?_
        refine o_ialdn (j := 4) dX12_renews_124 (by decide) rfl (by decide) (by first | rfl | omega) (by omega) ?_
        refine o_iload dX12_renews_125 rfl ?_
        refine o_if_eq (tgt := 134) dX12_renews_127 (by decide) ⟨by omega, by omega⟩ (fun c => absurd c (by decide)) (fun _ => ?_)
        refine o_iconst dX12_renews_130 ?_
        refine o_goto (tgt := 135) dX12_renews_131 (by decide) ?_
        refine o_iadd dX12_renews_135 ?_
        refine o_iaEn (j := 4) dX12_renews_136 rfl (by decide) (by decide) (by first | rfl | omega) (by omega) (fun _ => rfl) (by decide) (fun g_136 e_136 => ?_)
        have h_136 := sr_0_4' h_115 e_136 (z := Mi 0 4) (show g_115 193 4 + 0 = Mi 0 4 by have t := h_115.1.2.2.2.2.1; have t2 : g_115 193 4 = Mi 0 4 := t; omega)
        rw [o_e_id (M := o_e (m_pay Mi s (Mi 4 x * Mi 10 i)) 6 x (Mi 6 x + Mi 10 i)) (a := 0) (j := 4) (z := Mi 0 4) rfl] at h_136
        refine o_iinc dX12_renews_137 rfl (by decide) ?_
        refine o_goto (tgt := 2) dX12_renews_140 (by decide) ?_
        refine o_loc [(0, .ref 192), (1, .int (o_I (((i + 1) : Nat) : Int)))] rfl (ih (by omega) g_136 (by rw [e9, m_renew1', hx8, m_renew1, hsx, if_pos (by omega)]; exact h_136) (o_fr_e' (o_fr_e' (o_fr_t f1 q_92.2) q_115 (show o_mc _ from rfl)) e_136 (show o_mc _ from rfl))))
  refine o_iconst dX12_renews_0 ?_
  refine o_istore_n dX12_renews_1 (by decide) ?_
  exact o_loc _ rfl (key 0 (Nat.zero_le _) g hsr o_fr_r)
