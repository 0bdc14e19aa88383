abbrev o_sg (g M : Nat → Nat → Int) : Prop := o_sr (g 193) M
def n_burn (M : Nat → Nat → Int) : Nat → Int
  | 0 => 0
  | n + 1 => n_burn M n + o_b (0 < (o_fd m_burn1 M n) 5 n ∧ (o_fd m_burn1 M n) 4 n ≤ (o_fd m_burn1 M n) 0 2)
set_option maxRecDepth 100000 in
set_option maxHeartbeats 4000000 in
/-- burns() -/
theorem ct_X12_burns {l : Launch} (hl : l.stackTraces = false) (d : Nat) (g : Nat → Nat → Int) (M : Nat → Nat → Int) (hsr : o_sr (g 193) M) (hwk : o_wk M) : o_Ct l yX12_burns wX12_burns (d + 3) o_no [.ref 192] o_N (o_mem g) 0 0 (o_mt (some (.int (o_I (n_burn M (M 0 1).toNat)))) (fun g' => o_sr (g' 193) (m_burns M) ∧ o_fr o_mc g g')) := by
  refine o_Ct.ofV hl mX12_burns (by decide +kernel) rfl rfl rfl (Nat.le_of_ble_eq_true rfl) ?_
  obtain ⟨⟨hr0, hr1, hr2, hr3, hr4, hr5, hr6⟩, hrs, hrl, hrq⟩ := id hsr
  obtain ⟨hws, hwl, hwq, hwo, hwle, hwrq, hwrd⟩ := id hwk
  obtain ⟨hw1, hw2, hw3⟩ := id hws
  obtain ⟨hw4, hw5, hw6, hw7, hw8⟩ := id hwl
  obtain ⟨hw9, hw10, hw11⟩ := id hwq
  have key := o_lp (fun i => ∀ g1, o_sg g1 (o_fd m_burn1 M i) → o_fr (o_mc) g g1 → o_V l mX12_burns (d + 3) o_no (o_mt (some (.int (o_I (n_burn M (M 0 1).toNat)))) (fun g' => o_sr (g' 193) (m_burns M) ∧ o_fr o_mc g g')) 4 [(0, .ref 192), (1, .int (o_I (n_burn M i))), (2, .int (o_I ((i : Nat) : Int)))] [] o_N (o_mem g1) 0 0) (M 0 1).toNat (fun i hi ih g1 h1 f1 => by
    have e9 : o_fd m_burn1 M (i + 1) = m_burn1 (o_fd m_burn1 M i) i := rfl
    have ki := ke_burns hwk i hi
    obtain ⟨Mi, hMi⟩ : ∃ Mi, Mi = o_fd m_burn1 M i := ⟨_, rfl⟩
    rw [← hMi] at h1 ki e9
    obtain ⟨⟨hr0, hr1, hr2, hr3, hr4, hr5, hr6⟩, hrs, hrl, hrq⟩ := id h1
    obtain ⟨hws, hwl, hwq, hwo, hwle, hwrq, hwrd⟩ := id ki.1
    obtain ⟨hw1, hw2, hw3⟩ := id hws
    obtain ⟨hw4, hw5, hw6, hw7, hw8⟩ := id hwl
    obtain ⟨hw9, hw10, hw11⟩ := id hwq
    have hc9 := ki.2.2.1
    have en : n_burn M (i + 1) = n_burn M i + o_b (0 < Mi 5 i ∧ Mi 4 i ≤ Mi 0 2) := by rw [hMi]; rfl
    refine o_iload_n dX12_burns_4 rfl ?_
    refine o_aload_n dX12_burns_5 rfl ?_
    refine o_gf dX12_burns_6 fl_X12_9 rfl (by decide) rfl ?_
    refine o_iconst dX12_burns_9 ?_
    refine o_ialdn (j := 1) dX12_burns_10 (by decide) rfl (by decide) (by first | rfl | omega) (by omega) ?_
    refine o_icmp_ge (tgt := 121) dX12_burns_11 (by decide) ⟨by omega, by omega⟩ ⟨by omega, by omega⟩ (fun c_11 => ?_) (fun c_11 => ?_)
    · skip
      refine o_iload_n dX12_burns_121 rfl ?_
      refine o_ret1 dX12_burns_122 trivial ?_
      have e : i = (M 0 1).toNat := by omega
      rw [hMi] at h1
      rw [e] at h1 ⊢
      exact o_mtI rfl ⟨h1, f1⟩
    · skip
      have hi9 : (i : Int) < Mi 0 1 := by omega
      have hb8 := hw8 i hi9
      have hl8 := hrl i hi9
      have hl80 : g1 193 (25 + 5 * i + 0) = Mi 4 i := hl8.1
      refine o_aload_n dX12_burns_14 rfl ?_
      refine o_iload_n dX12_burns_15 rfl ?_
      refine o_cV _ (ct_X12_isOut hl d g1 Mi h1 ki.1 i hi9) dX12_burns_16 ml_X12_96 yw_X12_isOut rfl (by decide) (by omega) (by decide) rfl rfl rfl (Nat.le_of_ble_eq_true rfl) ?_
      refine o_ifb_eq (tgt := 41) dX12_burns_19 (by decide) (fun c_19 => ?_) (fun c_19 => ?_)
      · skip
        refine o_iconst dX12_burns_41 ?_
        refine o_istore_n dX12_burns_42 (by decide) ?_
        refine o_aload_n dX12_burns_43 rfl ?_
        refine o_gf dX12_burns_44 fl_X12_9 rfl (by decide) rfl ?_
        refine o_iconst dX12_burns_47 ?_
        refine o_dup2 dX12_burns_48 rfl rfl ?_
        refine o_ialdn (j := 2) dX12_burns_49 (by decide) rfl (by decide) (by first | rfl | omega) (by omega) ?_
        refine o_iload_n dX12_burns_50 rfl ?_
        refine o_if_eq (tgt := 63) dX12_burns_51 (by decide) ⟨by omega, by omega⟩ (fun _ => ?_) (fun c => absurd rfl c)
        refine o_iconst dX12_burns_63 ?_
        refine o_isub dX12_burns_64 ?_
        refine o_iaEn (j := 2) dX12_burns_65 rfl (by decide) (by decide) (by first | rfl | omega) (by omega) (fun _ => rfl) (by decide) (fun g_65 e_65 => ?_)
        have h_65 := sr_0_2' h1 e_65 (show g1 193 2 - 0 = Mi 0 2 by omega)
        rw [o_e_id rfl] at h_65
        refine o_aload_n dX12_burns_66 rfl ?_
        refine o_iload_n dX12_burns_67 rfl ?_
        refine o_iconst dX12_burns_68 ?_
        refine o_iload_n dX12_burns_69 rfl ?_
        refine o_if_eq (tgt := 77) dX12_burns_70 (by decide) ⟨by omega, by omega⟩ (fun _ => ?_) (fun c => absurd rfl c)
        refine o_iconst dX12_burns_77 ?_
        refine o_cVm _ (ct_X12_sets hl (d + 1) g_65 i 4 (by omega) (by decide) _) dX12_burns_78 ml_X12_66 yw_X12_sets rfl (by decide) (by omega) (by decide) rfl rfl rfl (Nat.le_of_ble_eq_true rfl) (fun g_78 q_78 => ?_)
        have h_78 := sr_8' h_65 hw2 hw5 q_78 (by omega) rfl
        refine o_aload_n dX12_burns_81 rfl ?_
        refine o_iload_n dX12_burns_82 rfl ?_
        refine o_iconst dX12_burns_83 ?_
        refine o_aload_n dX12_burns_84 rfl ?_
        refine o_iload_n dX12_burns_85 rfl ?_
        refine o_iconst dX12_burns_86 ?_
        refine o_cV _ (ct_X12_of hl (d + 1) g_78 i 3 (by omega) (by decide)) dX12_burns_87 ml_X12_58 yw_X12_of rfl (by decide) (by omega) (by decide) rfl rfl rfl (Nat.le_of_ble_eq_true rfl) ?_
        refine o_iload_n dX12_burns_90 rfl ?_
        refine o_if_eq (tgt := 98) dX12_burns_91 (by decide) ⟨by omega, by omega⟩ (fun _ => ?_) (fun c => absurd rfl c)
        refine o_iconst dX12_burns_98 ?_
        refine o_iadd dX12_burns_99 ?_
        refine o_cVm _ (ct_X12_sets hl (d + 1) g_78 i 3 (by omega) (by decide) _) dX12_burns_100 ml_X12_66 yw_X12_sets rfl (by decide) (by omega) (by decide) rfl rfl rfl (Nat.le_of_ble_eq_true rfl) (fun g_100 q_100 => ?_)
        have h_100 := sr_7' h_78 hw2 hw5 q_100 (by omega) (z := Mi 7 i) (by have t := (h_78.2.2.1 i hi9).2.2.2.1; have t2 : g_78 193 (25 + 5 * i + 3) = Mi 7 i := t; omega)
        rw [o_e_id (M := o_e Mi 8 i 0) (a := 7) (j := i) (z := Mi 7 i) rfl] at h_100
        refine o_iload_n dX12_burns_103 rfl ?_
        refine o_iload_n dX12_burns_104 rfl ?_
        refine o_if_eq (tgt := 112) dX12_burns_105 (by decide) ⟨by omega, by omega⟩ (fun _ => ?_) (fun c => absurd rfl c)
        refine o_iconst dX12_burns_112 ?_
        refine o_iadd dX12_burns_113 ?_
        refine o_istore_n dX12_burns_114 (by decide) ?_
        refine o_iinc dX12_burns_115 rfl (by decide) ?_
        refine o_goto (tgt := 4) dX12_burns_118 (by decide) ?_
        refine o_loc [(0, .ref 192), (1, .int (o_I (n_burn M (i + 1)))), (2, .int (o_I (((i + 1) : Nat) : Int)))] (by rw [en, o_b0 (fun q => c_19 q.1)]; rfl) (ih (by omega) g_100 (by rw [e9, m_burn1, if_neg (fun q => c_19 q.1)]; exact h_100) (o_fr_e' (o_fr_e' (o_fr_e' f1 e_65 (show o_mc _ from ⟨by decide, by decide⟩)) q_78 (show o_mc _ from ⟨by decide, by decide⟩)) q_100 (show o_mc _ from ⟨by decide, by decide⟩)))
      · skip
        refine o_aload_n dX12_burns_22 rfl ?_
        refine o_iload_n dX12_burns_23 rfl ?_
        refine o_iconst dX12_burns_24 ?_
        refine o_cV _ (ct_X12_of hl (d + 1) g1 i 0 (by omega) (by decide)) dX12_burns_25 ml_X12_58 yw_X12_of rfl (by decide) (by omega) (by decide) rfl rfl rfl (Nat.le_of_ble_eq_true rfl) ?_
        refine o_aload_n dX12_burns_28 rfl ?_
        refine o_gf dX12_burns_29 fl_X12_9 rfl (by decide) rfl ?_
        refine o_iconst dX12_burns_32 ?_
        refine o_ialdn (j := 2) dX12_burns_33 (by decide) rfl (by decide) (by first | rfl | omega) (by omega) ?_
        refine o_icmp_gt (tgt := 41) dX12_burns_34 (by decide) ⟨by omega, by omega⟩ ⟨by omega, by omega⟩ (fun c_34 => ?_) (fun c_34 => ?_)
        · skip
          refine o_iconst dX12_burns_41 ?_
          refine o_istore_n dX12_burns_42 (by decide) ?_
          refine o_aload_n dX12_burns_43 rfl ?_
          refine o_gf dX12_burns_44 fl_X12_9 rfl (by decide) rfl ?_
          refine o_iconst dX12_burns_47 ?_
          refine o_dup2 dX12_burns_48 rfl rfl ?_
          refine o_ialdn (j := 2) dX12_burns_49 (by decide) rfl (by decide) (by first | rfl | omega) (by omega) ?_
          refine o_iload_n dX12_burns_50 rfl ?_
          refine o_if_eq (tgt := 63) dX12_burns_51 (by decide) ⟨by omega, by omega⟩ (fun _ => ?_) (fun c => absurd rfl c)
          refine o_iconst dX12_burns_63 ?_
          refine o_isub dX12_burns_64 ?_
          refine o_iaEn (j := 2) dX12_burns_65 rfl (by decide) (by decide) (by first | rfl | omega) (by omega) (fun _ => rfl) (by decide) (fun g_65 e_65 => ?_)
          have h_65 := sr_0_2' h1 e_65 (show g1 193 2 - 0 = Mi 0 2 by omega)
          rw [o_e_id rfl] at h_65
          refine o_aload_n dX12_burns_66 rfl ?_
          refine o_iload_n dX12_burns_67 rfl ?_
          refine o_iconst dX12_burns_68 ?_
          refine o_iload_n dX12_burns_69 rfl ?_
          refine o_if_eq (tgt := 77) dX12_burns_70 (by decide) ⟨by omega, by omega⟩ (fun _ => ?_) (fun c => absurd rfl c)
          refine o_iconst dX12_burns_77 ?_
          refine o_cVm _ (ct_X12_sets hl (d + 1) g_65 i 4 (by omega) (by decide) _) dX12_burns_78 ml_X12_66 yw_X12_sets rfl (by decide) (by omega) (by decide) rfl rfl rfl (Nat.le_of_ble_eq_true rfl) (fun g_78 q_78 => ?_)
          have h_78 := sr_8' h_65 hw2 hw5 q_78 (by omega) rfl
          refine o_aload_n dX12_burns_81 rfl ?_
          refine o_iload_n dX12_burns_82 rfl ?_
          refine o_iconst dX12_burns_83 ?_
          refine o_aload_n dX12_burns_84 rfl ?_
          refine o_iload_n dX12_burns_85 rfl ?_
          refine o_iconst dX12_burns_86 ?_
          refine o_cV _ (ct_X12_of hl (d + 1) g_78 i 3 (by omega) (by decide)) dX12_burns_87 ml_X12_58 yw_X12_of rfl (by decide) (by omega) (by decide) rfl rfl rfl (Nat.le_of_ble_eq_true rfl) ?_
          refine o_iload_n dX12_burns_90 rfl ?_
          refine o_if_eq (tgt := 98) dX12_burns_91 (by decide) ⟨by omega, by omega⟩ (fun _ => ?_) (fun c => absurd rfl c)
          refine o_iconst dX12_burns_98 ?_
          refine o_iadd dX12_burns_99 ?_
          refine o_cVm _ (ct_X12_sets hl (d + 1) g_78 i 3 (by omega) (by decide) _) dX12_burns_100 ml_X12_66 yw_X12_sets rfl (by decide) (by omega) (by decide) rfl rfl rfl (Nat.le_of_ble_eq_true rfl) (fun g_100 q_100 => ?_)
          have h_100 := sr_7' h_78 hw2 hw5 q_100 (by omega) (z := Mi 7 i) (by have t := (h_78.2.2.1 i hi9).2.2.2.1; have t2 : g_78 193 (25 + 5 * i + 3) = Mi 7 i := t; omega)
          rw [o_e_id (M := o_e Mi 8 i 0) (a := 7) (j := i) (z := Mi 7 i) rfl] at h_100
          refine o_iload_n dX12_burns_103 rfl ?_
          refine o_iload_n dX12_burns_104 rfl ?_
          refine o_if_eq (tgt := 112) dX12_burns_105 (by decide) ⟨by omega, by omega⟩ (fun _ => ?_) (fun c => absurd rfl c)
          refine o_iconst dX12_burns_112 ?_
          refine o_iadd dX12_burns_113 ?_
          refine o_istore_n dX12_burns_114 (by decide) ?_
          refine o_iinc dX12_burns_115 rfl (by decide) ?_
          refine o_goto (tgt := 4) dX12_burns_118 (by decide) ?_
          refine o_loc [(0, .ref 192), (1, .int (o_I (n_burn M (i + 1)))), (2, .int (o_I (((i + 1) : Nat) : Int)))] (by rw [en, o_b0 (fun q => by have := q.2; omega)]; rfl) (ih (by omega) g_100 (by rw [e9, m_burn1, if_neg (fun q => by have := q.2; omega)]; exact h_100) (o_fr_e' (o_fr_e' (o_fr_e' f1 e_65 (show o_mc _ from ⟨by decide, by decide⟩)) q_78 (show o_mc _ from ⟨by decide, by decide⟩)) q_100 (show o_mc _ from ⟨by decide, by decide⟩)))
        · skip
          refine o_iconst dX12_burns_37 ?_
          refine o_goto (tgt := 42) dX12_burns_38 (by decide) ?_
          refine o_istore_n dX12_burns_42 (by decide) ?_
          refine o_aload_n dX12_burns_43 rfl ?_
          refine o_gf dX12_burns_44 fl_X12_9 rfl (by decide) rfl ?_
          refine o_iconst dX12_burns_47 ?_
          refine o_dup2 dX12_burns_48 rfl rfl ?_
          refine o_ialdn (j := 2) dX12_burns_49 (by decide) rfl (by decide) (by first | rfl | omega) (by omega) ?_
          refine o_iload_n dX12_burns_50 rfl ?_
          refine o_if_eq (tgt := 63) dX12_burns_51 (by decide) ⟨by omega, by omega⟩ (fun c => absurd c (by decide)) (fun _ => ?_)
          refine o_aload_n dX12_burns_54 rfl ?_
          refine o_iload_n dX12_burns_55 rfl ?_
          refine o_iconst dX12_burns_56 ?_
          refine o_cV _ (ct_X12_of hl (d + 1) g1 i 0 (by omega) (by decide)) dX12_burns_57 ml_X12_58 yw_X12_of rfl (by decide) (by omega) (by decide) rfl rfl rfl (Nat.le_of_ble_eq_true rfl) ?_
          refine o_goto (tgt := 64) dX12_burns_60 (by decide) ?_
          refine o_isub dX12_burns_64 ?_
          refine o_iaEn (j := 2) dX12_burns_65 rfl (by decide) (by decide) (by first | rfl | omega) (by omega) (fun _ => rfl) (by decide) (fun g_65 e_65 => ?_)
          have h_65 := sr_0_2' h1 e_65 (show g1 193 2 - g1 193 (25 + 5 * i + 0) = Mi 0 2 - Mi 4 i by omega)
          refine o_aload_n dX12_burns_66 rfl ?_
          refine o_iload_n dX12_burns_67 rfl ?_
          refine o_iconst dX12_burns_68 ?_
          refine o_iload_n dX12_burns_69 rfl ?_
          refine o_if_eq (tgt := 77) dX12_burns_70 (by decide) ⟨by omega, by omega⟩ (fun c => absurd c (by decide)) (fun _ => ?_)
          refine o_iconst dX12_burns_73 ?_
          refine o_goto (tgt := 78) dX12_burns_74 (by decide) ?_
          refine o_cVm _ (ct_X12_sets hl (d + 1) g_65 i 4 (by omega) (by decide) _) dX12_burns_78 ml_X12_66 yw_X12_sets rfl (by decide) (by omega) (by decide) rfl rfl rfl (Nat.le_of_ble_eq_true rfl) (fun g_78 q_78 => ?_)
          have h_78 := sr_8' h_65 hw2 hw5 q_78 (by omega) rfl
          refine o_aload_n dX12_burns_81 rfl ?_
          refine o_iload_n dX12_burns_82 rfl ?_
          refine o_iconst dX12_burns_83 ?_
          refine o_aload_n dX12_burns_84 rfl ?_
          refine o_iload_n dX12_burns_85 rfl ?_
          refine o_iconst dX12_burns_86 ?_
          refine o_cV _ (ct_X12_of hl (d + 1) g_78 i 3 (by omega) (by decide)) dX12_burns_87 ml_X12_58 yw_X12_of rfl (by decide) (by omega) (by decide) rfl rfl rfl (Nat.le_of_ble_eq_true rfl) ?_
          refine o_iload_n dX12_burns_90 rfl ?_
          refine o_if_eq (tgt := 98) dX12_burns_91 (by decide) ⟨by omega, by omega⟩ (fun c => absurd c (by decide)) (fun _ => ?_)
          refine o_iconst dX12_burns_94 ?_
          refine o_goto (tgt := 99) dX12_burns_95 (by decide) ?_
          refine o_iadd dX12_burns_99 ?_
          refine o_cVm _ (ct_X12_sets hl (d + 1) g_78 i 3 (by omega) (by decide) _) dX12_burns_100 ml_X12_66 yw_X12_sets rfl (by decide) (by omega) (by decide) rfl rfl rfl (Nat.le_of_ble_eq_true rfl) (fun g_100 q_100 => ?_)
          have h_100 := sr_7' h_78 hw2 hw5 q_100 (by omega) (z := Mi 7 i + 1) (by have t := (h_78.2.2.1 i hi9).2.2.2.1; have t2 : g_78 193 (25 + 5 * i + 3) = Mi 7 i := t; omega)
          rw [o_e_cm (a := 0) (b := 8) (by decide)] at h_100
          refine o_iload_n dX12_burns_103 rfl ?_
          refine o_iload_n dX12_burns_104 rfl ?_
          refine o_if_eq (tgt := 112) dX12_burns_105 (by decide) ⟨by omega, by omega⟩ (fun c => absurd c (by decide)) (fun _ => ?_)
          refine o_iconst dX12_burns_108 ?_
          refine o_goto (tgt := 113) dX12_burns_109 (by decide) ?_
          refine o_iadd dX12_burns_113 ?_
          refine o_istore_n dX12_burns_114 (by decide) ?_
          refine o_iinc dX12_burns_115 rfl (by decide) ?_
          refine o_goto (tgt := 4) dX12_burns_118 (by decide) ?_
          refine o_loc [(0, .ref 192), (1, .int (o_I (n_burn M (i + 1)))), (2, .int (o_I (((i + 1) : Nat) : Int)))] (by rw [en, o_b1 ⟨c_19, by omega⟩]; rfl) (ih (by omega) g_100 (by rw [e9, m_burn1, if_pos ⟨c_19, by omega⟩]; exact h_100) (o_fr_e' (o_fr_e' (o_fr_e' f1 e_65 (show o_mc _ from ⟨by decide, by decide⟩)) q_78 (show o_mc _ from ⟨by decide, by decide⟩)) q_100 (show o_mc _ from ⟨by decide, by decide⟩))))
  refine o_iconst dX12_burns_0 ?_
  refine o_istore_n dX12_burns_1 (by decide) ?_
  refine o_iconst dX12_burns_2 ?_
  refine o_istore_n dX12_burns_3 (by decide) ?_
  exact o_loc _ rfl (key 0 (Nat.zero_le _) g hsr o_fr_r)
set_option maxRecDepth 100000 in
set_option maxHeartbeats 4000000 in
/-- fines() -/
theorem ct_X12_fines {l : Launch} (hl : l.stackTraces = false) (d : Nat) (g : Nat → Nat → Int) (M : Nat → Nat → Int) (hsr : o_sr (g 193) M) (hwk : o_wk M) : o_Ct l yX12_fines wX12_fines (d + 4) o_no [.ref 192] o_N (o_mem g) 0 0 (o_mt (none) (fun g' => o_sr (g' 193) (m_fines M) ∧ o_fr o_mc g g')) := by
  refine o_Ct.ofV hl mX12_fines (by decide +kernel) rfl rfl rfl (Nat.le_of_ble_eq_true rfl) ?_
  obtain ⟨⟨hr0, hr1, hr2, hr3, hr4, hr5, hr6⟩, hrs, hrl, hrq⟩ := id hsr
  obtain ⟨hws, hwl, hwq, hwo, hwle, hwrq, hwrd⟩ := id hwk
  obtain ⟨hw1, hw2, hw3⟩ := id hws
  obtain ⟨hw4, hw5, hw6, hw7, hw8⟩ := id hwl
  obtain ⟨hw9, hw10, hw11⟩ := id hwq
  have key := o_lp (fun i => ∀ g1, o_sg g1 (o_fd m_fine1 M i) → o_fr (o_mc) g g1 → o_V l mX12_fines (d + 4) o_no (o_mt (none) (fun g' => o_sr (g' 193) (m_fines M) ∧ o_fr o_mc g g')) 2 [(0, .ref 192), (1, .int (o_I ((i : Nat) : Int)))] [] o_N (o_mem g1) 0 0) (M 0 0).toNat (fun i hi ih g1 h1 f1 => by
    have e9 : o_fd m_fine1 M (i + 1) = m_fine1 (o_fd m_fine1 M i) i := rfl
    have ki := ke_fines hwk i hi
    obtain ⟨Mi, hMi⟩ : ∃ Mi, Mi = o_fd m_fine1 M i := ⟨_, rfl⟩
    rw [← hMi] at h1 ki e9
    obtain ⟨⟨hr0, hr1, hr2, hr3, hr4, hr5, hr6⟩, hrs, hrl, hrq⟩ := id h1
    obtain ⟨hws, hwl, hwq, hwo, hwle, hwrq, hwrd⟩ := id ki.1
    obtain ⟨hw1, hw2, hw3⟩ := id hws
    obtain ⟨hw4, hw5, hw6, hw7, hw8⟩ := id hwl
    obtain ⟨hw9, hw10, hw11⟩ := id hwq
    have hc9 := ki.2.1
    refine o_iload_n dX12_fines_2 rfl ?_
    refine o_aload_n dX12_fines_3 rfl ?_
    refine o_gf dX12_fines_4 fl_X12_9 rfl (by decide) rfl ?_
    refine o_iconst dX12_fines_7 ?_
    refine o_ialdn (j := 0) dX12_fines_8 (by decide) rfl (by decide) (by first | rfl | omega) (by omega) ?_
    refine o_icmp_ge (tgt := 91) dX12_fines_9 (by decide) ⟨by omega, by omega⟩ ⟨by omega, by omega⟩ (fun c_9 => ?_) (fun c_9 => ?_)
    · skip
      refine o_ret0 dX12_fines_91 trivial ?_
      exact o_mt0 ⟨by have e : i = (M 0 0).toNat := by omega
                      rw [hMi, e] at h1; exact h1, f1⟩
    · skip
      have hi9 : (i : Int) < Mi 0 0 := by omega
      have hb8 := hw3 i hi9
      have hs8 := hrs i hi9
      have hcn : 0 ≤ m_cnt Mi i ∧ m_cnt Mi i ≤ 8 := by have := o_sm_b (fun j => Mi 5 j = (i : Int) + 1) (Mi 0 1).toNat; unfold m_cnt; omega
      have han : 0 ≤ m_any Mi i ∧ m_any Mi i ≤ 8 := by have := o_sm_b (fun j => Mi 5 j = (i : Int) + 1 ∧ Mi 8 j = 1) (Mi 0 1).toNat; unfold m_any; omega
      refine o_aload_n dX12_fines_12 rfl ?_
      refine o_iload_n dX12_fines_13 rfl ?_
      refine o_iconst dX12_fines_14 ?_
      refine o_cV _ (ct_lampsOf0 hl d g1 Mi h1 ki.1 i hi9) dX12_fines_15 ml_X12_120 yw_X12_lampsOf rfl (by decide) (by omega) (by decide) rfl rfl rfl (Nat.le_of_ble_eq_true rfl) ?_
      refine o_istore_n dX12_fines_18 (by decide) ?_
      refine o_iload_n dX12_fines_19 rfl ?_
      refine o_if_le (tgt := 85) dX12_fines_20 (by decide) ⟨by omega, by omega⟩ (fun c_20 => ?_) (fun c_20 => ?_)
      · skip
        refine o_iinc dX12_fines_85 rfl (by decide) ?_
        refine o_goto (tgt := 2) dX12_fines_88 (by decide) ?_
        refine o_loc [(0, .ref 192), (1, .int (o_I (((i + 1) : Nat) : Int)))] rfl (ih (by omega) g1 (by rw [e9, m_fine1, if_neg (fun q => by have := q.1; omega)]; exact h1) f1)
      · skip
        refine o_aload_n dX12_fines_23 rfl ?_
        refine o_iload_n dX12_fines_24 rfl ?_
        refine o_iconst dX12_fines_25 ?_
        refine o_cV _ (ct_lampsOf1 hl d g1 Mi h1 ki.1 i hi9) dX12_fines_26 ml_X12_120 yw_X12_lampsOf rfl (by decide) (by omega) (by decide) rfl rfl rfl (Nat.le_of_ble_eq_true rfl) ?_
        refine o_if_ne (tgt := 85) dX12_fines_29 (by decide) ⟨by omega, by omega⟩ (fun c_29 => ?_) (fun c_29 => ?_)
        · skip
          refine o_iinc dX12_fines_85 rfl (by decide) ?_
          refine o_goto (tgt := 2) dX12_fines_88 (by decide) ?_
          refine o_loc [(0, .ref 192), (1, .int (o_I (((i + 1) : Nat) : Int)))] rfl (ih (by omega) g1 (by rw [e9, m_fine1, if_neg (fun q => by have := q.2; omega)]; exact h1) f1)
        · skip
          refine o_iconst dX12_fines_32 ?_
          refine o_iload_n dX12_fines_33 rfl ?_
          refine o_imul dX12_fines_34 ?_
          refine o_aload_n dX12_fines_35 rfl ?_
          refine o_iload_n dX12_fines_36 rfl ?_
          refine o_iconst dX12_fines_37 ?_
          refine o_cV _ (ct_X12_ofShip hl (d + 2) g1 i 0 (by omega) (by decide)) dX12_fines_38 ml_X12_99 yw_X12_ofShip rfl (by decide) (by omega) (by decide) rfl rfl rfl (Nat.le_of_ble_eq_true rfl) ?_
          rw [show g1 193 (7 + 3 * i + 0) = Mi 1 i from hs8.1]
          refine o_mmin dX12_fines_41 ml_X12_124 o_minS.1 o_minS.2.1 o_minS.2.2 ⟨by omega, by omega⟩ ⟨by omega, by omega⟩ (Nat.le_of_ble_eq_true rfl) ?_
          refine o_istore_n dX12_fines_44 (by decide) ?_
          refine o_aload_n dX12_fines_45 rfl ?_
          refine o_iload_n dX12_fines_46 rfl ?_
          refine o_iload_n dX12_fines_47 rfl ?_
          refine o_cVm _ (ct_X12_pays hl (d + 2) g1 Mi h1 ki.1 i hi9 (min (2 * m_cnt Mi i) (Mi 1 i))) dX12_fines_48 ml_X12_102 yw_X12_pays rfl (by decide) (by omega) (by decide) rfl rfl rfl (Nat.le_of_ble_eq_true rfl) (fun g_48 q_48 => ?_)
          refine o_aload_n dX12_fines_51 rfl ?_
          refine o_gf dX12_fines_52 fl_X12_9 rfl (by decide) rfl ?_
          refine o_bipush dX12_fines_55 (by decide) ?_
          refine o_iconst dX12_fines_57 ?_
          refine o_iload_n dX12_fines_58 rfl ?_
          refine o_imul dX12_fines_59 ?_
          refine o_iadd dX12_fines_60 ?_
          refine o_iconst dX12_fines_61 ?_
          refine o_iadd dX12_fines_62 ?_
          refine o_dup2 dX12_fines_63 rfl rfl ?_
          refine o_ialdn (j := (7 + 3 * i + 1)) dX12_fines_64 (by decide) rfl (by decide) (by first | rfl | omega) (by omega) ?_
          refine o_iload_n dX12_fines_65 rfl ?_
          refine o_iadd dX12_fines_66 ?_
          refine o_iaEn (j := (7 + 3 * i + 1)) dX12_fines_67 rfl (by decide) (by decide) (by first | rfl | omega) (by omega) (fun _ => rfl) (by decide) (fun g_67 e_67 => ?_)
          have h_67 := sr_2' q_48.1 hw2 hw5 e_67 (by omega) (show g_48 193 (7 + 3 * i + 1) + min (2 * m_cnt Mi i) (Mi 1 i) = Mi 2 i + min (2 * m_cnt Mi i) (Mi 1 i) by have t3 := (q_48.1.2.1 i hi9).2.1; have t4 : g_48 193 (7 + 3 * i + 1) = Mi 2 i := t3; omega)
          refine o_aload_n dX12_fines_68 rfl ?_
          refine o_gf dX12_fines_69 fl_X12_9 rfl (by decide) rfl ?_
          refine o_bipush dX12_fines_72 (by decide) ?_
          refine o_iconst dX12_fines_74 ?_
          refine o_iload_n dX12_fines_75 rfl ?_
          refine o_imul dX12_fines_76 ?_
          refine o_iadd dX12_fines_77 ?_
          refine o_iconst dX12_fines_78 ?_
          refine o_iadd dX12_fines_79 ?_
          refine o_dup2 dX12_fines_80 rfl rfl ?_
          refine o_ialdn (j := (7 + 3 * i + 2)) dX12_fines_81 (by decide) rfl (by decide) (by first | rfl | omega) (by omega) ?_
          refine o_iconst dX12_fines_82 ?_
          refine o_iadd dX12_fines_83 ?_
          refine o_iaEn (j := (7 + 3 * i + 2)) dX12_fines_84 rfl (by decide) (by decide) (by first | rfl | omega) (by omega) (fun _ => rfl) (by decide) (fun g_84 e_84 => ?_)
          have h_84 := sr_3' h_67 hw2 hw5 e_84 (by omega) (show g_67 193 (7 + 3 * i + 2) + 1 = Mi 3 i + 1 by have t3 := (h_67.2.1 i hi9).2.2; have t4 : g_67 193 (7 + 3 * i + 2) = Mi 3 i := t3; omega)
          refine o_iinc dX12_fines_85 rfl (by decide) ?_
          refine o_goto (tgt := 2) dX12_fines_88 (by decide) ?_
          refine o_loc [(0, .ref 192), (1, .int (o_I (((i + 1) : Nat) : Int)))] rfl (ih (by omega) g_84 (by rw [e9, m_fine1, if_pos ⟨by omega, by omega⟩]; exact h_84) (o_fr_e' (o_fr_e' (o_fr_t f1 q_48.2) e_67 (show o_mc _ from ⟨by decide, by decide⟩)) e_84 (show o_mc _ from ⟨by decide, by decide⟩))))
  refine o_iconst dX12_fines_0 ?_
  refine o_istore_n dX12_fines_1 (by decide) ?_
  exact o_loc _ rfl (key 0 (Nat.zero_le _) g hsr o_fr_r)
set_option maxRecDepth 100000 in
set_option maxHeartbeats 4000000 in
theorem o_endLoop {l : Launch} (hl : l.stackTraces = false) (d : Nat) (g : Nat → Nat → Int) (M : Nat → Nat → Int) (hsr : o_sr (g 193) M) (hwk : o_wk M) : o_V l mX12_endsLeases (d + 3) o_no (o_mt (some (.int (o_I (n_end M (M 0 1).toNat)))) (fun g' => o_sr (g' 193) (m_ends M) ∧ o_fr o_mc g g')) 14 [(0, .ref 192), (1, .int (o_I (n_end M 0))), (2, .int (o_I ((0 : Nat) : Int)))] [] o_N (o_mem g) 0 0 := by
  obtain ⟨⟨hr0, hr1, hr2, hr3, hr4, hr5, hr6⟩, hrs, hrl, hrq⟩ := id hsr
  obtain ⟨hws, hwl, hwq, hwo, hwle, hwrq, hwrd⟩ := id hwk
  obtain ⟨hw1, hw2, hw3⟩ := id hws
  obtain ⟨hw4, hw5, hw6, hw7, hw8⟩ := id hwl
  obtain ⟨hw9, hw10, hw11⟩ := id hwq
  have key := o_lp (fun i => ∀ g1, o_sg g1 (o_fd m_end1 M i) → o_fr o_mc g g1 → o_V l mX12_endsLeases (d + 3) o_no (o_mt (some (.int (o_I (n_end M (M 0 1).toNat)))) (fun g' => o_sr (g' 193) (m_ends M) ∧ o_fr o_mc g g')) 14 [(0, .ref 192), (1, .int (o_I (n_end M i))), (2, .int (o_I ((i : Nat) : Int)))] [] o_N (o_mem g1) 0 0) (M 0 1).toNat (fun i hi ih g1 h1 f1 => by
    have e9 : o_fd m_end1 M (i + 1) = m_end1 (o_fd m_end1 M i) i := rfl
    have ki := ke_ends hwk i hi
    obtain ⟨Mi, hMi⟩ : ∃ Mi, Mi = o_fd m_end1 M i := ⟨_, rfl⟩
    rw [← hMi] at h1 ki e9
    obtain ⟨⟨hr0, hr1, hr2, hr3, hr4, hr5, hr6⟩, hrs, hrl, hrq⟩ := id h1
    obtain ⟨hws, hwl, hwq, hwo, hwle, hwrq, hwrd⟩ := id ki.1
    obtain ⟨hw1, hw2, hw3⟩ := id hws
    obtain ⟨hw4, hw5, hw6, hw7, hw8⟩ := id hwl
    obtain ⟨hw9, hw10, hw11⟩ := id hwq
    have hc9 := ki.2.2.1
    have en : n_end M (i + 1) = n_end M i + o_b (0 < Mi 5 i ∧ Mi 6 i = Mi 0 3) := by rw [hMi]; rfl
    refine o_iload_n dX12_endsLeases_14 rfl ?_
    refine o_aload_n dX12_endsLeases_15 rfl ?_
    refine o_gf dX12_endsLeases_16 fl_X12_9 rfl (by decide) rfl ?_
    refine o_iconst dX12_endsLeases_19 ?_
    refine o_ialdn (j := 1) dX12_endsLeases_20 (by decide) rfl (by decide) (by first | rfl | omega) (by omega) ?_
    refine o_icmp_ge (tgt := 61) dX12_endsLeases_21 (by decide) ⟨by omega, by omega⟩ ⟨by omega, by omega⟩ (fun c_21 => ?_) (fun c_21 => ?_)
    · skip
      refine o_iload_n dX12_endsLeases_61 rfl ?_
      refine o_ret1 dX12_endsLeases_62 trivial ?_
      have e : i = (M 0 1).toNat := by omega
      rw [hMi] at h1
      rw [e] at h1 ⊢
      exact o_mtI rfl ⟨h1, f1⟩
    · skip
      have hi9 : (i : Int) < Mi 0 1 := by omega
      have hb8 := hw8 i hi9
      have hl8 := hrl i hi9
      refine o_aload_n dX12_endsLeases_24 rfl ?_
      refine o_iload_n dX12_endsLeases_25 rfl ?_
      refine o_cV _ (ct_X12_isOut hl d g1 Mi h1 ki.1 i hi9) dX12_endsLeases_26 ml_X12_96 yw_X12_isOut rfl (by decide) (by omega) (by decide) rfl rfl rfl (Nat.le_of_ble_eq_true rfl) ?_
      refine o_ifb_eq (tgt := 55) dX12_endsLeases_29 (by decide) (fun c_29 => ?_) (fun c_29 => ?_)
      · skip
        refine o_iinc dX12_endsLeases_55 rfl (by decide) ?_
        refine o_goto (tgt := 14) dX12_endsLeases_58 (by decide) ?_
        refine o_loc [(0, .ref 192), (1, .int (o_I (n_end M (i + 1)))), (2, .int (o_I (((i + 1) : Nat) : Int)))] (by rw [en, o_b0 (fun q => c_29 q.1), Int.add_zero]; rfl) (ih (by omega) g1 (by rw [e9, m_end1, if_neg (fun q => c_29 q.1)]; exact h1) f1)
      · skip
        refine o_aload_n dX12_endsLeases_32 rfl ?_
        refine o_iload_n dX12_endsLeases_33 rfl ?_
        refine o_iconst dX12_endsLeases_34 ?_
        refine o_cV _ (ct_X12_of hl (d + 1) g1 i 2 (by omega) (by decide)) dX12_endsLeases_35 ml_X12_58 yw_X12_of rfl (by decide) (by omega) (by decide) rfl rfl rfl (Nat.le_of_ble_eq_true rfl) ?_
        refine o_aload_n dX12_endsLeases_38 rfl ?_
        refine o_gf dX12_endsLeases_39 fl_X12_9 rfl (by decide) rfl ?_
        refine o_iconst dX12_endsLeases_42 ?_
        refine o_ialdn (j := 3) dX12_endsLeases_43 (by decide) rfl (by decide) (by first | rfl | omega) (by omega) ?_
        refine o_icmp_ne (tgt := 55) dX12_endsLeases_44 (by decide) ⟨by omega, by omega⟩ ⟨by omega, by omega⟩ (fun c_44 => ?_) (fun c_44 => ?_)
        · skip
          refine o_iinc dX12_endsLeases_55 rfl (by decide) ?_
          refine o_goto (tgt := 14) dX12_endsLeases_58 (by decide) ?_
          refine o_loc [(0, .ref 192), (1, .int (o_I (n_end M (i + 1)))), (2, .int (o_I (((i + 1) : Nat) : Int)))] (by rw [en, o_b0 (fun q => c_44 (by omega)), Int.add_zero]; rfl) (ih (by omega) g1 (by rw [e9, m_end1, if_neg (fun q => c_44 (by omega))]; exact h1) f1)
        · skip
          refine o_aload_n dX12_endsLeases_47 rfl ?_
          refine o_iload_n dX12_endsLeases_48 rfl ?_
          refine o_cVm _ (ct_X12_frees hl d g1 Mi h1 ki.1 i hi9) dX12_endsLeases_49 ml_X12_113 yw_X12_frees rfl (by decide) (by omega) (by decide) rfl rfl rfl (Nat.le_of_ble_eq_true rfl) (fun g_49 q_49 => ?_)
          refine o_iinc dX12_endsLeases_52 rfl (by decide) ?_
          refine o_iinc dX12_endsLeases_55 rfl (by decide) ?_
          refine o_goto (tgt := 14) dX12_endsLeases_58 (by decide) ?_
          refine o_loc [(0, .ref 192), (1, .int (o_I (n_end M (i + 1)))), (2, .int (o_I (((i + 1) : Nat) : Int)))] (by rw [en, o_b1 ⟨c_29, by omega⟩]; rfl) (ih (by omega) g_49 (by rw [e9, m_end1, if_pos ⟨c_29, by omega⟩]; exact q_49.1) (o_fr_t f1 q_49.2)))
  exact key 0 (Nat.zero_le _) g hsr o_fr_r
theorem o_mono_p {l : Launch} {M : o_M} {d : Nat} {al : Nat → Prop} {p q : o_P} {pc : Nat} {ls : List (Nat × Value)} {st : List Value} {n : Nat} {h : Nat → o_C} {mc ms : Nat} (hpq : p = q) (k : o_V l M d al p pc ls st n h mc ms) : o_V l M d al q pc ls st n h mc ms := hpq ▸ k
theorem o_mt_w {v : Option Value} {Q Q' : (Nat → Nat → Int) → Prop} (h : ∀ g, Q g → Q' g) : ∀ o n k, o_mt v Q o n k → o_mt v Q' o n k := fun _ _ _ q => ⟨q.1, q.2.1, q.2.2.imp (fun g z => ⟨z.1, h g z.2⟩)⟩
