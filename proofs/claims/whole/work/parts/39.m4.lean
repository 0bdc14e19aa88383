set_option maxRecDepth 100000 in
set_option maxHeartbeats 4000000 in
/-- doAddShip() -/
theorem ct_X12_doAddShip {l : Launch} (hl : l.stackTraces = false) (d : Nat) (g : Nat → Nat → Int) (M : Nat → Nat → Int) (hsr : o_sr (g 193) M) (hwk : o_wk M) : o_Ct l yX12_doAddShip wX12_doAddShip (d + 2) o_no [.ref 192] o_N (o_mem g) 0 0 (r_do (r_ship M) (M 0 0) (m_ship M) g) := by
  refine o_Ct.ofV hl mX12_doAddShip (by decide +kernel) rfl rfl rfl (Nat.le_of_ble_eq_true rfl) ?_
  obtain ⟨⟨hr0, hr1, hr2, hr3, hr4, hr5, hr6⟩, hrs, hrl, hrq⟩ := id hsr
  obtain ⟨hws, hwl, hwq, hwo, hwle, hwrq, hwrd⟩ := id hwk
  obtain ⟨hw1, hw2, hw3⟩ := id hws
  obtain ⟨hw4, hw5, hw6, hw7, hw8⟩ := id hwl
  obtain ⟨hw9, hw10, hw11⟩ := id hwq
  have p0 : ((M 0 0).toNat : Int) = M 0 0 := by omega
  have p1 : ((M 0 1).toNat : Int) = M 0 1 := by omega
  have p6 : ((M 0 6).toNat : Int) = M 0 6 := by omega
  refine o_aload_n dX12_doAddShip_0 rfl ?_
  refine o_gf dX12_doAddShip_1 fl_X12_9 rfl (by decide) rfl ?_
  refine o_iconst dX12_doAddShip_4 ?_
  refine o_ialdn (j := 0) dX12_doAddShip_5 (by decide) rfl (by decide) (by first | rfl | omega) (by omega) ?_
  rw [show g 193 0 = ((((M 0 0).toNat : Nat)) : Int) by omega]
  refine o_istore_n dX12_doAddShip_6 (by decide) ?_
  refine o_iload_n dX12_doAddShip_7 rfl ?_
  refine o_bipush dX12_doAddShip_8 (by decide) ?_
  refine o_icmp_ne (tgt := 19) dX12_doAddShip_10 (by decide) ⟨by omega, by omega⟩ ⟨by omega, by omega⟩ (fun c_10 => ?_) (fun c_10 => ?_)
  · skip
    refine o_aload_n dX12_doAddShip_19 rfl ?_
    refine o_gf dX12_doAddShip_20 fl_X12_9 rfl (by decide) rfl ?_
    refine o_bipush dX12_doAddShip_23 (by decide) ?_
    refine o_iconst dX12_doAddShip_25 ?_
    refine o_iload_n dX12_doAddShip_26 rfl ?_
    refine o_imul dX12_doAddShip_27 ?_
    refine o_iadd dX12_doAddShip_28 ?_
    refine o_bipush dX12_doAddShip_29 (by decide) ?_
    refine o_iaEn (j := (7 + 3 * (M 0 0).toNat)) dX12_doAddShip_31 rfl (by decide) (by decide) (by first | rfl | omega) (by omega) (fun _ => rfl) (by decide) (fun g_31 e_31 => ?_)
    refine o_aload_n dX12_doAddShip_32 rfl ?_
    refine o_gf dX12_doAddShip_33 fl_X12_9 rfl (by decide) rfl ?_
    refine o_bipush dX12_doAddShip_36 (by decide) ?_
    refine o_iconst dX12_doAddShip_38 ?_
    refine o_iload_n dX12_doAddShip_39 rfl ?_
    refine o_imul dX12_doAddShip_40 ?_
    refine o_iadd dX12_doAddShip_41 ?_
    refine o_iconst dX12_doAddShip_42 ?_
    refine o_iadd dX12_doAddShip_43 ?_
    refine o_iconst dX12_doAddShip_44 ?_
    refine o_iaEn (j := (7 + 3 * (M 0 0).toNat + 1)) dX12_doAddShip_45 rfl (by decide) (by decide) (by first | rfl | omega) (by omega) (fun _ => rfl) (by decide) (fun g_45 e_45 => ?_)
    refine o_aload_n dX12_doAddShip_46 rfl ?_
    refine o_gf dX12_doAddShip_47 fl_X12_9 rfl (by decide) rfl ?_
    refine o_bipush dX12_doAddShip_50 (by decide) ?_
    refine o_iconst dX12_doAddShip_52 ?_
    refine o_iload_n dX12_doAddShip_53 rfl ?_
    refine o_imul dX12_doAddShip_54 ?_
    refine o_iadd dX12_doAddShip_55 ?_
    refine o_iconst dX12_doAddShip_56 ?_
    refine o_iadd dX12_doAddShip_57 ?_
    refine o_iconst dX12_doAddShip_58 ?_
    refine o_iaEn (j := (7 + 3 * (M 0 0).toNat + 2)) dX12_doAddShip_59 rfl (by decide) (by decide) (by first | rfl | omega) (by omega) (fun _ => rfl) (by decide) (fun g_59 e_59 => ?_)
    refine o_aload_n dX12_doAddShip_60 rfl ?_
    refine o_gf dX12_doAddShip_61 fl_X12_9 rfl (by decide) rfl ?_
    refine o_iconst dX12_doAddShip_64 ?_
    refine o_dup2 dX12_doAddShip_65 rfl rfl ?_
    refine o_ialdn (j := 0) dX12_doAddShip_66 (by decide) rfl (by decide) (by first | rfl | omega) (by omega) ?_
    refine o_iconst dX12_doAddShip_67 ?_
    refine o_iadd dX12_doAddShip_68 ?_
    refine o_iaEn (j := 0) dX12_doAddShip_69 rfl (by decide) (by decide) (by first | rfl | omega) (by omega) (fun _ => rfl) (by decide) (fun g_69 e_69 => ?_)
    refine o_iload_n dX12_doAddShip_70 rfl ?_
    refine o_ret1 dX12_doAddShip_71 trivial ?_
    refine o_doY (by unfold r_ship; (try simp only [Int.toNat_natCast] at *); (repeat' split) <;> omega) (by omega) ⟨sr_ship hsr hw2 hw5 hw10 hw1 (n := (M 0 0).toNat) (by omega) (by omega) (fun j => ?_), (o_fr_e' (o_fr_e' (o_fr_e' (o_fr_e' o_fr_r e_31 (show o_mc _ from rfl)) e_45 (show o_mc _ from rfl)) e_59 (show o_mc _ from rfl)) e_69 (show o_mc _ from rfl))⟩
    have e0 : g_59 193 0 = M 0 0 := by rw [e_59, o_e_k (by omega), e_45, o_e_k (by omega), e_31, o_e_k (by omega), hr0]
    rw [e_69, e0, e_59, e_45, e_31]
    simp [o_e]
  · skip
    refine o_aload_n dX12_doAddShip_13 rfl ?_
    refine o_iconst dX12_doAddShip_14 ?_
    refine o_cVm _ (ct_X12_fails hl d g 1) dX12_doAddShip_15 ml_X12_70 yw_X12_fails rfl (by decide) (by omega) (by decide) rfl rfl rfl (Nat.le_of_ble_eq_true rfl) (fun g_15 q_15 => ?_)
    refine o_ret1 dX12_doAddShip_18 trivial ?_
    exact o_doF (k := r_ship M) (c := 1) (by unfold r_ship; (try simp only [Int.toNat_natCast] at *); (repeat' split) <;> omega) (by decide) q_15
set_option maxRecDepth 100000 in
set_option maxHeartbeats 4000000 in
/-- doAddLamp(v) -/
theorem ct_X12_doAddLamp {l : Launch} (hl : l.stackTraces = false) (d : Nat) (g : Nat → Nat → Int) (M : Nat → Nat → Int) (hsr : o_sr (g 193) M) (hwk : o_wk M) (v : Int) (hv : o_R v) : o_Ct l yX12_doAddLamp wX12_doAddLamp (d + 2) o_no [.ref 192, .int (o_I v)] o_N (o_mem g) 0 0 (r_do (r_lamp M v) (M 0 1) (m_lamp M v) g) := by
  refine o_Ct.ofV hl mX12_doAddLamp (by decide +kernel) rfl rfl rfl (Nat.le_of_ble_eq_true rfl) ?_
  obtain ⟨⟨hr0, hr1, hr2, hr3, hr4, hr5, hr6⟩, hrs, hrl, hrq⟩ := id hsr
  obtain ⟨hws, hwl, hwq, hwo, hwle, hwrq, hwrd⟩ := id hwk
  obtain ⟨hw1, hw2, hw3⟩ := id hws
  obtain ⟨hw4, hw5, hw6, hw7, hw8⟩ := id hwl
  obtain ⟨hw9, hw10, hw11⟩ := id hwq
  obtain ⟨v1, v2⟩ := id hv
  have key := fun (hv8 : 1 ≤ v ∧ v ≤ 3) (hn8 : M 0 1 < 8) => o_lp (fun w => ∀ g1, (∀ j, g1 193 j = if 25 + 5 * (M 0 1).toNat ≤ j ∧ j < 25 + 5 * (M 0 1).toNat + w then 0 else g 193 j) → o_fr o_mc g g1 → o_V l mX12_doAddLamp (d + 2) o_no (r_do (r_lamp M v) (M 0 1) (m_lamp M v) g) 36 [(0, .ref 192), (1, .int (o_I v)), (2, .int (o_I (((M 0 1).toNat : Nat) : Int))), (3, .int (o_I ((w : Nat) : Int)))] [] o_N (o_mem g1) 0 0) 5 (fun w hi ih g1 h1 f1 => by
    refine o_iload_n dX12_doAddLamp_36 rfl ?_
    refine o_iconst dX12_doAddLamp_37 ?_
    refine o_icmp_ge (tgt := 54) dX12_doAddLamp_38 (by decide) ⟨by omega, by omega⟩ ⟨by omega, by omega⟩ (fun c_38 => ?_) (fun c_38 => ?_)
    · skip
      refine o_aload_n dX12_doAddLamp_54 rfl ?_
      refine o_iload_n dX12_doAddLamp_55 rfl ?_
      refine o_iconst dX12_doAddLamp_56 ?_
      refine o_iload_n dX12_doAddLamp_57 rfl ?_
      refine o_cVm _ (ct_X12_sets hl d g1 (M 0 1).toNat 0 (by omega) (by decide) v) dX12_doAddLamp_58 ml_X12_66 yw_X12_sets rfl (by decide) (by omega) (by decide) rfl rfl rfl (Nat.le_of_ble_eq_true rfl) (fun g_58 q_58 => ?_)
      refine o_aload_n dX12_doAddLamp_61 rfl ?_
      refine o_gf dX12_doAddLamp_62 fl_X12_9 rfl (by decide) rfl ?_
      refine o_iconst dX12_doAddLamp_65 ?_
      refine o_dup2 dX12_doAddLamp_66 rfl rfl ?_
      refine o_ialdn (j := 1) dX12_doAddLamp_67 (by decide) rfl (by decide) (by first | rfl | omega) (by omega) ?_
      refine o_iconst dX12_doAddLamp_68 ?_
      refine o_iadd dX12_doAddLamp_69 ?_
      refine o_iaEn (j := 1) dX12_doAddLamp_70 rfl (by decide) (by decide) (by first | rfl | omega) (by omega) (fun _ => rfl) (by decide) (fun g_70 e_70 => ?_)
      refine o_iload_n dX12_doAddLamp_71 rfl ?_
      refine o_ret1 dX12_doAddLamp_72 trivial ?_
      refine o_doY (by unfold r_lamp; (try simp only [Int.toNat_natCast] at *); (repeat' split) <;> omega) (by omega) ⟨sr_lamp hsr hw2 hw5 hw10 hw4 (n := (M 0 1).toNat) (by omega) (by omega) (fun j => ?_), o_fr_e' (o_fr_e' f1 q_58 (show o_mc _ from rfl)) e_70 (show o_mc _ from rfl)⟩
      have e1 : g_58 193 1 = M 0 1 := by rw [q_58, o_e_k (by omega), h1 1, if_neg (by omega), hr1]
      rw [e_70, e1, q_58]
      have t := h1 j
      have t5 : w = 5 := by omega
      subst t5
      unfold o_e
      simp only [true_and]
      by_cases c0 : j = 1
      · rw [if_pos c0, if_pos c0]
      · rw [if_neg c0, if_neg c0]
        by_cases c1 : j = 25 + 5 * (M 0 1).toNat + 0
        · rw [if_pos c1, if_pos (by omega)]
        · rw [if_neg c1, if_neg (by omega), t]
          by_cases c2 : 25 + 5 * (M 0 1).toNat ≤ j ∧ j < 25 + 5 * (M 0 1).toNat + 5
          · rw [if_pos c2]
            (repeat' split) <;> omega
          · rw [if_neg c2]
            (repeat' split) <;> omega
    · skip
      refine o_aload_n dX12_doAddLamp_41 rfl ?_
      refine o_iload_n dX12_doAddLamp_42 rfl ?_
      refine o_iload_n dX12_doAddLamp_43 rfl ?_
      refine o_iconst dX12_doAddLamp_44 ?_
      refine o_cVm _ (ct_X12_sets hl d g1 (M 0 1).toNat w (by omega) (by omega) 0) dX12_doAddLamp_45 ml_X12_66 yw_X12_sets rfl (by decide) (by omega) (by decide) rfl rfl rfl (Nat.le_of_ble_eq_true rfl) (fun g_45 q_45 => ?_)
      refine o_iinc dX12_doAddLamp_48 rfl (by decide) ?_
      refine o_goto (tgt := 36) dX12_doAddLamp_51 (by decide) ?_
      refine o_loc [(0, .ref 192), (1, .int (o_I v)), (2, .int (o_I (((M 0 1).toNat : Nat) : Int))), (3, .int (o_I (((w + 1) : Nat) : Int)))] rfl (ih (by omega) g_45 (fun j => ?_) (o_fr_e' f1 q_45 (show o_mc _ from rfl)))
      rw [q_45]
      unfold o_e
      have t := h1 j
      by_cases c : j = 25 + 5 * (M 0 1).toNat + w
      · rw [if_pos ⟨rfl, c⟩, if_pos ⟨by omega, by omega⟩]
      · rw [if_neg (fun q => c q.2), t]
        by_cases c2 : 25 + 5 * (M 0 1).toNat ≤ j ∧ j < 25 + 5 * (M 0 1).toNat + w
        · rw [if_pos c2, if_pos ⟨by omega, by omega⟩]
        · rw [if_neg c2, if_neg (fun q => by omega)])
  refine o_aload_n dX12_doAddLamp_0 rfl ?_
  refine o_gf dX12_doAddLamp_1 fl_X12_9 rfl (by decide) rfl ?_
  refine o_iconst dX12_doAddLamp_4 ?_
  refine o_ialdn (j := 1) dX12_doAddLamp_5 (by decide) rfl (by decide) (by first | rfl | omega) (by omega) ?_
  rw [show g 193 1 = ((((M 0 1).toNat : Nat)) : Int) by omega]
  refine o_istore_n dX12_doAddLamp_6 (by decide) ?_
  refine o_iload_n dX12_doAddLamp_7 rfl ?_
  refine o_iconst dX12_doAddLamp_8 ?_
  refine o_iconst dX12_doAddLamp_9 ?_
  refine o_cS _ (ct_X12_in hl d g v hv 1 ⟨by omega, by omega⟩ 3 ⟨by omega, by omega⟩) dX12_doAddLamp_10 ml_X12_54 ys_X12_in rfl (by decide) (by omega) rfl (Nat.le_of_ble_eq_true rfl) ?_
  refine o_ifb_ne (tgt := 22) dX12_doAddLamp_13 (by decide) (fun c_13 => ?_) (fun c_13 => ?_)
  · skip
    refine o_iload_n dX12_doAddLamp_22 rfl ?_
    refine o_bipush dX12_doAddLamp_23 (by decide) ?_
    refine o_icmp_ne (tgt := 34) dX12_doAddLamp_25 (by decide) ⟨by omega, by omega⟩ ⟨by omega, by omega⟩ (fun c_25 => ?_) (fun c_25 => ?_)
    · skip
      refine o_iconst dX12_doAddLamp_34 ?_
      refine o_istore_n dX12_doAddLamp_35 (by decide) ?_
      exact o_loc _ rfl (key (by omega) (by omega) 0 (Nat.zero_le _) g (fun j => by rw [if_neg (by omega)]) o_fr_r)
    · skip
      refine o_aload_n dX12_doAddLamp_28 rfl ?_
      refine o_iconst dX12_doAddLamp_29 ?_
      refine o_cVm _ (ct_X12_fails hl d g 2) dX12_doAddLamp_30 ml_X12_70 yw_X12_fails rfl (by decide) (by omega) (by decide) rfl rfl rfl (Nat.le_of_ble_eq_true rfl) (fun g_30 q_30 => ?_)
      refine o_ret1 dX12_doAddLamp_33 trivial ?_
      exact o_doF (k := r_lamp M v) (c := 2) (by unfold r_lamp; (try simp only [Int.toNat_natCast] at *); (repeat' split) <;> omega) (by decide) q_30
  · skip
    refine o_aload_n dX12_doAddLamp_16 rfl ?_
    refine o_iconst dX12_doAddLamp_17 ?_
    refine o_cVm _ (ct_X12_fails hl d g 1) dX12_doAddLamp_18 ml_X12_70 yw_X12_fails rfl (by decide) (by omega) (by decide) rfl rfl rfl (Nat.le_of_ble_eq_true rfl) (fun g_18 q_18 => ?_)
    refine o_ret1 dX12_doAddLamp_21 trivial ?_
    exact o_doF (k := r_lamp M v) (c := 1) (by unfold r_lamp; (try simp only [Int.toNat_natCast] at *); (repeat' split) <;> omega) (by decide) q_18
set_option maxRecDepth 100000 in
set_option maxHeartbeats 4000000 in
/-- doAddOil(u) -/
theorem ct_X12_doAddOil {l : Launch} (hl : l.stackTraces = false) (d : Nat) (g : Nat → Nat → Int) (M : Nat → Nat → Int) (hsr : o_sr (g 193) M) (hwk : o_wk M) (u : Int) (hu : o_R u) : o_Ct l yX12_doAddOil wX12_doAddOil (d + 2) o_no [.ref 192, .int (o_I u)] o_N (o_mem g) 0 0 (r_do (r_oil M u) (M 0 2 + u) (m_oil M u) g) := by
  refine o_Ct.ofV hl mX12_doAddOil (by decide +kernel) rfl rfl rfl (Nat.le_of_ble_eq_true rfl) ?_
  obtain ⟨⟨hr0, hr1, hr2, hr3, hr4, hr5, hr6⟩, hrs, hrl, hrq⟩ := id hsr
  obtain ⟨hws, hwl, hwq, hwo, hwle, hwrq, hwrd⟩ := id hwk
  obtain ⟨hw1, hw2, hw3⟩ := id hws
  obtain ⟨hw4, hw5, hw6, hw7, hw8⟩ := id hwl
  obtain ⟨hw9, hw10, hw11⟩ := id hwq
  obtain ⟨u1, u2⟩ := id hu
  refine o_iload_n dX12_doAddOil_0 rfl ?_
  refine o_iconst dX12_doAddOil_1 ?_
  refine o_sipush dX12_doAddOil_2 (by decide) ?_
  refine o_cS _ (ct_X12_in hl d g u hu 1 ⟨by omega, by omega⟩ 200 ⟨by omega, by omega⟩) dX12_doAddOil_5 ml_X12_54 ys_X12_in rfl (by decide) (by omega) rfl (Nat.le_of_ble_eq_true rfl) ?_
  refine o_ifb_ne (tgt := 17) dX12_doAddOil_8 (by decide) (fun c_8 => ?_) (fun c_8 => ?_)
  · skip
    refine o_aload_n dX12_doAddOil_17 rfl ?_
    refine o_gf dX12_doAddOil_18 fl_X12_9 rfl (by decide) rfl ?_
    refine o_iconst dX12_doAddOil_21 ?_
    refine o_ialdn (j := 2) dX12_doAddOil_22 (by decide) rfl (by decide) (by first | rfl | omega) (by omega) ?_
    refine o_iload_n dX12_doAddOil_23 rfl ?_
    refine o_iadd dX12_doAddOil_24 ?_
    refine o_sipush dX12_doAddOil_25 (by decide) ?_
    refine o_icmp_le (tgt := 37) dX12_doAddOil_28 (by decide) ⟨by omega, by omega⟩ ⟨by omega, by omega⟩ (fun c_28 => ?_) (fun c_28 => ?_)
    · skip
      refine o_aload_n dX12_doAddOil_37 rfl ?_
      refine o_gf dX12_doAddOil_38 fl_X12_9 rfl (by decide) rfl ?_
      refine o_iconst dX12_doAddOil_41 ?_
      refine o_dup2 dX12_doAddOil_42 rfl rfl ?_
      refine o_ialdn (j := 2) dX12_doAddOil_43 (by decide) rfl (by decide) (by first | rfl | omega) (by omega) ?_
      refine o_iload_n dX12_doAddOil_44 rfl ?_
      refine o_iadd dX12_doAddOil_45 ?_
      refine o_iaEn (j := 2) dX12_doAddOil_46 rfl (by decide) (by decide) (by first | rfl | omega) (by omega) (fun _ => rfl) (by decide) (fun g_46 e_46 => ?_)
      have h_46 := sr_0_2' hsr e_46 (show g 193 2 + u = M 0 2 + u by omega)
      have v_46 : g_46 193 2 = M 0 2 + u := by rw [e_46, o_e_s, hr2]
      refine o_aload_n dX12_doAddOil_47 rfl ?_
      refine o_gf dX12_doAddOil_48 fl_X12_9 rfl (by decide) rfl ?_
      refine o_iconst dX12_doAddOil_51 ?_
      refine o_ialdn (j := 2) dX12_doAddOil_52 (by decide) rfl (by decide) (by first | rfl | omega) (by omega) ?_
      refine o_ret1 dX12_doAddOil_53 trivial ?_
      exact o_doY (by unfold r_oil; (try simp only [Int.toNat_natCast] at *); (repeat' split) <;> omega) v_46.symm ⟨h_46, (o_fr_e' o_fr_r e_46 (show o_mc _ from rfl))⟩
    · skip
      refine o_aload_n dX12_doAddOil_31 rfl ?_
      refine o_iconst dX12_doAddOil_32 ?_
      refine o_cVm _ (ct_X12_fails hl d g 2) dX12_doAddOil_33 ml_X12_70 yw_X12_fails rfl (by decide) (by omega) (by decide) rfl rfl rfl (Nat.le_of_ble_eq_true rfl) (fun g_33 q_33 => ?_)
      refine o_ret1 dX12_doAddOil_36 trivial ?_
      exact o_doF (k := r_oil M u) (c := 2) (by unfold r_oil; (try simp only [Int.toNat_natCast] at *); (repeat' split) <;> omega) (by decide) q_33
  · skip
    refine o_aload_n dX12_doAddOil_11 rfl ?_
    refine o_iconst dX12_doAddOil_12 ?_
    refine o_cVm _ (ct_X12_fails hl d g 1) dX12_doAddOil_13 ml_X12_70 yw_X12_fails rfl (by decide) (by omega) (by decide) rfl rfl rfl (Nat.le_of_ble_eq_true rfl) (fun g_13 q_13 => ?_)
    refine o_ret1 dX12_doAddOil_16 trivial ?_
    exact o_doF (k := r_oil M u) (c := 1) (by unfold r_oil; (try simp only [Int.toNat_natCast] at *); (repeat' split) <;> omega) (by decide) q_13
set_option maxRecDepth 100000 in
set_option maxHeartbeats 4000000 in
/-- doGiveUp(x) -/
theorem ct_X12_doGiveUp {l : Launch} (hl : l.stackTraces = false) (d : Nat) (g : Nat → Nat → Int) (M : Nat → Nat → Int) (hsr : o_sr (g 193) M) (hwk : o_wk M) (x : Int) (hx : o_R x) : o_Ct l yX12_doGiveUp wX12_doGiveUp (d + 3) o_no [.ref 192, .int (o_I x)] o_N (o_mem g) 0 0 (r_do (r_unl M x) (M 6 x.toNat - M 0 3) (m_free M x.toNat) g) := by
  refine o_Ct.ofV hl mX12_doGiveUp (by decide +kernel) rfl rfl rfl (Nat.le_of_ble_eq_true rfl) ?_
  obtain ⟨⟨hr0, hr1, hr2, hr3, hr4, hr5, hr6⟩, hrs, hrl, hrq⟩ := id hsr
  obtain ⟨hws, hwl, hwq, hwo, hwle, hwrq, hwrd⟩ := id hwk
  obtain ⟨hw1, hw2, hw3⟩ := id hws
  obtain ⟨hw4, hw5, hw6, hw7, hw8⟩ := id hwl
  obtain ⟨hw9, hw10, hw11⟩ := id hwq
  obtain ⟨x1, x2⟩ := id hx
  refine o_aload_n dX12_doGiveUp_0 rfl ?_
  refine o_iload_n dX12_doGiveUp_1 rfl ?_
  refine o_cV _ (ct_X12_isLamp hl d g M hsr hwk x hx) dX12_doGiveUp_2 ml_X12_93 yw_X12_isLamp rfl (by decide) (by omega) (by decide) rfl rfl rfl (Nat.le_of_ble_eq_true rfl) ?_
  refine o_ifb_ne (tgt := 14) dX12_doGiveUp_5 (by decide) (fun c_5 => ?_) (fun c_5 => ?_)
  · skip
    obtain ⟨j, rfl⟩ : ∃ j : Nat, (j : Int) = x := ⟨x.toNat, by omega⟩
    have hj : (j : Int) < M 0 1 := by omega
    have hb8 := hw8 j hj
    have hl8 := hrl j hj
    refine o_aload_n dX12_doGiveUp_14 rfl ?_
    refine o_iload_n dX12_doGiveUp_15 rfl ?_
    refine o_cV _ (ct_X12_isOut hl d g M hsr hwk j hj) dX12_doGiveUp_16 ml_X12_96 yw_X12_isOut rfl (by decide) (by omega) (by decide) rfl rfl rfl (Nat.le_of_ble_eq_true rfl) ?_
    refine o_ifb_ne (tgt := 28) dX12_doGiveUp_19 (by decide) (fun c_19 => ?_) (fun c_19 => ?_)
    · skip
      refine o_aload_n dX12_doGiveUp_28 rfl ?_
      refine o_iload_n dX12_doGiveUp_29 rfl ?_
      refine o_iconst dX12_doGiveUp_30 ?_
      refine o_cV _ (ct_X12_of hl (d + 1) g j 2 (by omega) (by decide)) dX12_doGiveUp_31 ml_X12_58 yw_X12_of rfl (by decide) (by omega) (by decide) rfl rfl rfl (Nat.le_of_ble_eq_true rfl) ?_
      refine o_aload_n dX12_doGiveUp_34 rfl ?_
      refine o_gf dX12_doGiveUp_35 fl_X12_9 rfl (by decide) rfl ?_
      refine o_iconst dX12_doGiveUp_38 ?_
      refine o_ialdn (j := 3) dX12_doGiveUp_39 (by decide) rfl (by decide) (by first | rfl | omega) (by omega) ?_
      refine o_isub dX12_doGiveUp_40 ?_
      refine o_istore_n dX12_doGiveUp_41 (by decide) ?_
      refine o_aload_n dX12_doGiveUp_42 rfl ?_
      refine o_iload_n dX12_doGiveUp_43 rfl ?_
      refine o_cVm _ (ct_X12_frees hl d g M hsr hwk j hj) dX12_doGiveUp_44 ml_X12_113 yw_X12_frees rfl (by decide) (by omega) (by decide) rfl rfl rfl (Nat.le_of_ble_eq_true rfl) (fun g_44 q_44 => ?_)
      refine o_iload_n dX12_doGiveUp_47 rfl ?_
      refine o_ret1 dX12_doGiveUp_48 trivial ?_
      refine o_doY (by unfold r_unl; (try simp only [Int.toNat_natCast] at *); (repeat' split) <;> omega) ?_ q_44
      simp only [Int.toNat_natCast]
      have t : g 193 (25 + 5 * j + 2) = M 6 j := hl8.2.2.1
      omega
    · skip
      refine o_aload_n dX12_doGiveUp_22 rfl ?_
      refine o_iconst dX12_doGiveUp_23 ?_
      refine o_cVm _ (ct_X12_fails hl (d + 1) g 2) dX12_doGiveUp_24 ml_X12_70 yw_X12_fails rfl (by decide) (by omega) (by decide) rfl rfl rfl (Nat.le_of_ble_eq_true rfl) (fun g_24 q_24 => ?_)
      refine o_ret1 dX12_doGiveUp_27 trivial ?_
      exact o_doF (k := r_unl M (j : Int)) (c := 2) (by unfold r_unl; (try simp only [Int.toNat_natCast] at *); (repeat' split) <;> omega) (by decide) q_24
  · skip
    refine o_aload_n dX12_doGiveUp_8 rfl ?_
    refine o_iconst dX12_doGiveUp_9 ?_
    refine o_cVm _ (ct_X12_fails hl (d + 1) g 1) dX12_doGiveUp_10 ml_X12_70 yw_X12_fails rfl (by decide) (by omega) (by decide) rfl rfl rfl (Nat.le_of_ble_eq_true rfl) (fun g_10 q_10 => ?_)
    refine o_ret1 dX12_doGiveUp_13 trivial ?_
    exact o_doF (k := r_unl M x) (c := 1) (by unfold r_unl; (try simp only [Int.toNat_natCast] at *); (repeat' split) <;> omega) (by decide) q_10
/-- a lamp without a request: the queue isn't full -/
theorem o_qlt {M : Nat → Nat → Int} (h : o_wk M) {j : Nat} (hj : (j : Int) < M 0 1) (hp : m_pos M j = -1) : M 0 6 < 8 := by
  obtain ⟨-, ⟨b1, b2, -⟩, ⟨c1, c2, c3⟩, -, -, -, hd⟩ := h
  have hp2 := o_ps_fst (fun i => M 9 i = (j : Int)) (M 0 6).toNat
  rw [show o_ps (fun i => M 9 i = (j : Int)) (M 0 6).toNat = m_pos M j from rfl, hp] at hp2
  have hno : ∀ k : Nat, (k : Int) < M 0 6 → M 9 k ≠ j := by
    rcases hp2 with ⟨-, h⟩ | ⟨k, q, -⟩
    · exact fun k hk => h k (by omega)
    · omega
  have e1 : o_sm (fun i => o_sm (fun k => o_b (M 9 k = (i : Int))) (M 0 6).toNat) (M 0 1).toNat = M 0 6 := by
    rw [sm_swap (fun i k => o_b (M 9 k = ((i : Nat) : Int)))]
    rw [show o_sm (fun k => o_sm (fun i => o_b (M 9 k = ((i : Nat) : Int))) (M 0 1).toNat) (M 0 6).toNat = o_sm (fun _ => 1) (M 0 6).toNat from sm_eq (fun k hk => by have := c3 k (by omega); rw [sm_one (by omega), o_b1 (by omega)]), sm_const]
    omega
  have e2 : o_sm (fun i => o_sm (fun k => o_b (M 9 k = ((i : Nat) : Int))) (M 0 6).toNat) (M 0 1).toNat < o_sm (fun _ => 1) (M 0 1).toNat := by
    refine sm_lt (k := j) (fun i _ => sm_le1 (fun a b ha hb p q => hd a b (by omega) (by omega) (p.trans q.symm))) (by omega) ?_
    show o_sm (fun k => o_b (M 9 k = (j : Int))) (M 0 6).toNat < 1
    rw [show o_sm (fun k => o_b (M 9 k = (j : Int))) (M 0 6).toNat = o_sm (fun _ => 0) (M 0 6).toNat from sm_eq (fun k hk => o_b0 (hno k (by omega))), sm_zero]
    decide
  rw [sm_const] at e2
  omega
set_option maxRecDepth 100000 in
set_option maxHeartbeats 4000000 in
/-- doRequestRenewal(x, t) -/
theorem ct_X12_doRequestRenewal {l : Launch} (hl : l.stackTraces = false) (d : Nat) (g : Nat → Nat → Int) (M : Nat → Nat → Int) (hsr : o_sr (g 193) M) (hwk : o_wk M) (x : Int) (hx : o_R x) (t : Int) (ht : o_R t) : o_Ct l yX12_doRequestRenewal wX12_doRequestRenewal (d + 3) o_no [.ref 192, .int (o_I x), .int (o_I t)] o_N (o_mem g) 0 0 (r_do (r_req M x t) (M 0 6) (m_req M x t) g) := by
  refine o_Ct.ofV hl mX12_doRequestRenewal (by decide +kernel) rfl rfl rfl (Nat.le_of_ble_eq_true rfl) ?_
  obtain ⟨⟨hr0, hr1, hr2, hr3, hr4, hr5, hr6⟩, hrs, hrl, hrq⟩ := id hsr
  obtain ⟨hws, hwl, hwq, hwo, hwle, hwrq, hwrd⟩ := id hwk
  obtain ⟨hw1, hw2, hw3⟩ := id hws
  obtain ⟨hw4, hw5, hw6, hw7, hw8⟩ := id hwl
  obtain ⟨hw9, hw10, hw11⟩ := id hwq
  obtain ⟨x1, x2⟩ := id hx
  obtain ⟨t1, t2⟩ := id ht
  refine o_aload_n dX12_doRequestRenewal_0 rfl ?_
  refine o_iload_n dX12_doRequestRenewal_1 rfl ?_
  refine o_cV _ (ct_X12_isLamp hl d g M hsr hwk x hx) dX12_doRequestRenewal_2 ml_X12_93 yw_X12_isLamp rfl (by decide) (by omega) (by decide) rfl rfl rfl (Nat.le_of_ble_eq_true rfl) ?_
  refine o_ifb_ne (tgt := 14) dX12_doRequestRenewal_5 (by decide) (fun c_5 => ?_) (fun c_5 => ?_)
  · skip
    obtain ⟨j, rfl⟩ : ∃ j : Nat, (j : Int) = x := ⟨x.toNat, by omega⟩
    have hj : (j : Int) < M 0 1 := by omega
    have hb8 := hw8 j hj
    have hl8 := hrl j hj
    refine o_iload_n dX12_doRequestRenewal_14 rfl ?_
    refine o_iconst dX12_doRequestRenewal_15 ?_
    refine o_bipush dX12_doRequestRenewal_16 (by decide) ?_
    refine o_cS _ (ct_X12_in hl (d + 1) g t ht 1 ⟨by omega, by omega⟩ 24 ⟨by omega, by omega⟩) dX12_doRequestRenewal_18 ml_X12_54 ys_X12_in rfl (by decide) (by omega) rfl (Nat.le_of_ble_eq_true rfl) ?_
    refine o_ifb_ne (tgt := 30) dX12_doRequestRenewal_21 (by decide) (fun c_21 => ?_) (fun c_21 => ?_)
    · skip
      refine o_aload_n dX12_doRequestRenewal_30 rfl ?_
      refine o_iload_n dX12_doRequestRenewal_31 rfl ?_
      refine o_cV _ (ct_X12_isOut hl d g M hsr hwk j hj) dX12_doRequestRenewal_32 ml_X12_96 yw_X12_isOut rfl (by decide) (by omega) (by decide) rfl rfl rfl (Nat.le_of_ble_eq_true rfl) ?_
      refine o_ifb_ne (tgt := 44) dX12_doRequestRenewal_35 (by decide) (fun c_35 => ?_) (fun c_35 => ?_)
      · skip
        refine o_aload_n dX12_doRequestRenewal_44 rfl ?_
        refine o_iload_n dX12_doRequestRenewal_45 rfl ?_
        refine o_cV _ (ct_X12_requestFor hl (d + 1) g M hsr hwk j (by omega) (m_pos M j) (o_ps_fst _ _)) dX12_doRequestRenewal_46 ml_X12_62 yw_X12_requestFor rfl (by decide) (by omega) (by decide) rfl rfl rfl (Nat.le_of_ble_eq_true rfl) ?_
        have hp := o_ps_fst (fun i => M 9 i = (j : Int)) (M 0 6).toNat
        rw [show o_ps (fun i => M 9 i = (j : Int)) (M 0 6).toNat = m_pos M j from rfl] at hp
        have hpR : -1 ≤ m_pos M j ∧ m_pos M j < M 0 6 := by rcases hp with ⟨q, -⟩ | ⟨k, q, hk, -⟩ <;> omega
        refine o_if_lt (tgt := 58) dX12_doRequestRenewal_49 (by decide) ⟨by omega, by omega⟩ (fun c_49 => ?_) (fun c_49 => ?_)
        · skip
          refine o_aload_n dX12_doRequestRenewal_58 rfl ?_
          refine o_gf dX12_doRequestRenewal_59 fl_X12_9 rfl (by decide) rfl ?_
          refine o_bipush dX12_doRequestRenewal_62 (by decide) ?_
          refine o_ialdn (j := 6) dX12_doRequestRenewal_64 (by decide) rfl (by decide) (by first | rfl | omega) (by omega) ?_
          have hn8 : M 0 6 < 8 := o_qlt hwk hj (by omega)
          rw [show g 193 6 = ((((M 0 6).toNat : Nat)) : Int) by omega]
          refine o_istore_n dX12_doRequestRenewal_65 (by decide) ?_
          refine o_aload_n dX12_doRequestRenewal_66 rfl ?_
          refine o_gf dX12_doRequestRenewal_67 fl_X12_9 rfl (by decide) rfl ?_
          refine o_bipush dX12_doRequestRenewal_70 (by decide) ?_
          refine o_iconst dX12_doRequestRenewal_72 ?_
          refine o_iload_n dX12_doRequestRenewal_73 rfl ?_
          refine o_imul dX12_doRequestRenewal_74 ?_
          refine o_iadd dX12_doRequestRenewal_75 ?_
          refine o_iload_n dX12_doRequestRenewal_76 rfl ?_
          refine o_iaEn (j := (65 + 2 * (M 0 6).toNat)) dX12_doRequestRenewal_77 rfl (by decide) (by decide) (by first | rfl | omega) (by omega) (fun _ => rfl) (by decide) (fun g_77 e_77 => ?_)
          refine o_aload_n dX12_doRequestRenewal_78 rfl ?_
          refine o_gf dX12_doRequestRenewal_79 fl_X12_9 rfl (by decide) rfl ?_
          refine o_bipush dX12_doRequestRenewal_82 (by decide) ?_
          refine o_iconst dX12_doRequestRenewal_84 ?_
          refine o_iload_n dX12_doRequestRenewal_85 rfl ?_
          refine o_imul dX12_doRequestRenewal_86 ?_
          refine o_iadd dX12_doRequestRenewal_87 ?_
          refine o_iconst dX12_doRequestRenewal_88 ?_
          refine o_iadd dX12_doRequestRenewal_89 ?_
          refine o_iload_n dX12_doRequestRenewal_90 rfl ?_
          refine o_iaEn (j := (65 + 2 * (M 0 6).toNat + 1)) dX12_doRequestRenewal_91 rfl (by decide) (by decide) (by first | rfl | omega) (by omega) (fun _ => rfl) (by decide) (fun g_91 e_91 => ?_)
          refine o_aload_n dX12_doRequestRenewal_92 rfl ?_
          refine o_gf dX12_doRequestRenewal_93 fl_X12_9 rfl (by decide) rfl ?_
          refine o_bipush dX12_doRequestRenewal_96 (by decide) ?_
          refine o_dup2 dX12_doRequestRenewal_98 rfl rfl ?_
          refine o_ialdn (j := 6) dX12_doRequestRenewal_99 (by decide) rfl (by decide) (by first | rfl | omega) (by omega) ?_
          refine o_iconst dX12_doRequestRenewal_100 ?_
          refine o_iadd dX12_doRequestRenewal_101 ?_
          refine o_iaEn (j := 6) dX12_doRequestRenewal_102 rfl (by decide) (by decide) (by first | rfl | omega) (by omega) (fun _ => rfl) (by decide) (fun g_102 e_102 => ?_)
          refine o_iload_n dX12_doRequestRenewal_103 rfl ?_
          refine o_ret1 dX12_doRequestRenewal_104 trivial ?_
          refine o_doY (by unfold r_req; (try simp only [Int.toNat_natCast] at *); (repeat' split) <;> omega) (by omega) ⟨sr_req hsr hw2 hw5 hw10 hw9 (n := (M 0 6).toNat) (by omega) (by omega) (fun j => ?_), (o_fr_e' (o_fr_e' (o_fr_e' o_fr_r e_77 (show o_mc _ from rfl)) e_91 (show o_mc _ from rfl)) e_102 (show o_mc _ from rfl))⟩
          have e0 : g_91 193 6 = M 0 6 := by rw [e_91, o_e_k (by omega), e_77, o_e_k (by omega), hr6]
          rw [e_102, e0, e_91, e_77]
          simp [o_e]
        · skip
          refine o_aload_n dX12_doRequestRenewal_52 rfl ?_
          refine o_iconst dX12_doRequestRenewal_53 ?_
          refine o_cVm _ (ct_X12_fails hl (d + 1) g 4) dX12_doRequestRenewal_54 ml_X12_70 yw_X12_fails rfl (by decide) (by omega) (by decide) rfl rfl rfl (Nat.le_of_ble_eq_true rfl) (fun g_54 q_54 => ?_)
          refine o_ret1 dX12_doRequestRenewal_57 trivial ?_
          exact o_doF (k := r_req M (j : Int) t) (c := 4) (by unfold r_req; (try simp only [Int.toNat_natCast] at *); (repeat' split) <;> omega) (by decide) q_54
      · skip
        refine o_aload_n dX12_doRequestRenewal_38 rfl ?_
        refine o_iconst dX12_doRequestRenewal_39 ?_
        refine o_cVm _ (ct_X12_fails hl (d + 1) g 3) dX12_doRequestRenewal_40 ml_X12_70 yw_X12_fails rfl (by decide) (by omega) (by decide) rfl rfl rfl (Nat.le_of_ble_eq_true rfl) (fun g_40 q_40 => ?_)
        refine o_ret1 dX12_doRequestRenewal_43 trivial ?_
        exact o_doF (k := r_req M (j : Int) t) (c := 3) (by unfold r_req; (try simp only [Int.toNat_natCast] at *); (repeat' split) <;> omega) (by decide) q_40
    · skip
      refine o_aload_n dX12_doRequestRenewal_24 rfl ?_
      refine o_iconst dX12_doRequestRenewal_25 ?_
      refine o_cVm _ (ct_X12_fails hl (d + 1) g 2) dX12_doRequestRenewal_26 ml_X12_70 yw_X12_fails rfl (by decide) (by omega) (by decide) rfl rfl rfl (Nat.le_of_ble_eq_true rfl) (fun g_26 q_26 => ?_)
      refine o_ret1 dX12_doRequestRenewal_29 trivial ?_
      exact o_doF (k := r_req M (j : Int) t) (c := 2) (by unfold r_req; (try simp only [Int.toNat_natCast] at *); (repeat' split) <;> omega) (by decide) q_26
  · skip
    refine o_aload_n dX12_doRequestRenewal_8 rfl ?_
    refine o_iconst dX12_doRequestRenewal_9 ?_
    refine o_cVm _ (ct_X12_fails hl (d + 1) g 1) dX12_doRequestRenewal_10 ml_X12_70 yw_X12_fails rfl (by decide) (by omega) (by decide) rfl rfl rfl (Nat.le_of_ble_eq_true rfl) (fun g_10 q_10 => ?_)
    refine o_ret1 dX12_doRequestRenewal_13 trivial ?_
    exact o_doF (k := r_req M x t) (c := 1) (by unfold r_req; (try simp only [Int.toNat_natCast] at *); (repeat' split) <;> omega) (by decide) q_10
set_option maxRecDepth 100000 in
set_option maxHeartbeats 4000000 in
/-- doLease(s, x, t) -/
theorem ct_X12_doLease {l : Launch} (hl : l.stackTraces = false) (d : Nat) (g : Nat → Nat → Int) (M : Nat → Nat → Int) (hsr : o_sr (g 193) M) (hwk : o_wk M) (s : Int) (hs : o_R s) (x : Int) (hx : o_R x) (t : Int) (ht : o_R t) : o_Ct l yX12_doLease wX12_doLease (d + 4) o_no [.ref 192, .int (o_I s), .int (o_I x), .int (o_I t)] o_N (o_mem g) 0 0 (r_do (r_lease M s x t) (M 0 3 + t) (m_lease M s.toNat x.toNat t) g) := by
  refine o_Ct.ofV hl mX12_doLease (by decide +kernel) rfl rfl rfl (Nat.le_of_ble_eq_true rfl) ?_
  obtain ⟨⟨hr0, hr1, hr2, hr3, hr4, hr5, hr6⟩, hrs, hrl, hrq⟩ := id hsr
  obtain ⟨hws, hwl, hwq, hwo, hwle, hwrq, hwrd⟩ := id hwk
  obtain ⟨hw1, hw2, hw3⟩ := id hws
  obtain ⟨hw4, hw5, hw6, hw7, hw8⟩ := id hwl
  obtain ⟨hw9, hw10, hw11⟩ := id hwq
  obtain ⟨s1, s2⟩ := id hs
  obtain ⟨x1, x2⟩ := id hx
  obtain ⟨t1, t2⟩ := id ht
  refine o_aload_n dX12_doLease_0 rfl ?_
  refine o_iload_n dX12_doLease_1 rfl ?_
  refine o_cV _ (ct_X12_isShip hl (d + 1) g M hsr hwk s hs) dX12_doLease_2 ml_X12_89 yw_X12_isShip rfl (by decide) (by omega) (by decide) rfl rfl rfl (Nat.le_of_ble_eq_true rfl) ?_
  refine o_ifb_eq (tgt := 16) dX12_doLease_5 (by decide) (fun c_5 => ?_) (fun c_5 => ?_)
  · skip
    refine o_aload_n dX12_doLease_16 rfl ?_
    refine o_iconst dX12_doLease_17 ?_
    refine o_cVm _ (ct_X12_fails hl (d + 2) g 1) dX12_doLease_18 ml_X12_70 yw_X12_fails rfl (by decide) (by omega) (by decide) rfl rfl rfl (Nat.le_of_ble_eq_true rfl) (fun g_18 q_18 => ?_)
    refine o_ret1 dX12_doLease_21 trivial ?_
    exact o_doF (k := r_lease M s x t) (c := 1) (by unfold r_lease; (try simp only [Int.toNat_natCast] at *); (repeat' split) <;> omega) (by decide) q_18
  · skip
    refine o_aload_n dX12_doLease_8 rfl ?_
    refine o_iload_n dX12_doLease_9 rfl ?_
    refine o_cV _ (ct_X12_isLamp hl (d + 1) g M hsr hwk x hx) dX12_doLease_10 ml_X12_93 yw_X12_isLamp rfl (by decide) (by omega) (by decide) rfl rfl rfl (Nat.le_of_ble_eq_true rfl) ?_
    refine o_ifb_ne (tgt := 22) dX12_doLease_13 (by decide) (fun c_13 => ?_) (fun c_13 => ?_)
    · skip
      obtain ⟨j, rfl⟩ : ∃ j : Nat, (j : Int) = x := ⟨x.toNat, by omega⟩
      obtain ⟨i, rfl⟩ : ∃ i : Nat, (i : Int) = s := ⟨s.toNat, by omega⟩
      have hj : (j : Int) < M 0 1 := by omega
      have hi : (i : Int) < M 0 0 := by omega
      have hb8 := hw8 j hj
      have hl8 := hrl j hj
      have hs8 := hrs i hi
      have hws8 := hw3 i hi
      refine o_iload_n dX12_doLease_22 rfl ?_
      refine o_iconst dX12_doLease_23 ?_
      refine o_bipush dX12_doLease_24 (by decide) ?_
      refine o_cS _ (ct_X12_in hl (d + 2) g t ht 1 ⟨by omega, by omega⟩ 24 ⟨by omega, by omega⟩) dX12_doLease_26 ml_X12_54 ys_X12_in rfl (by decide) (by omega) rfl (Nat.le_of_ble_eq_true rfl) ?_
      refine o_ifb_ne (tgt := 38) dX12_doLease_29 (by decide) (fun c_29 => ?_) (fun c_29 => ?_)
      · skip
        refine o_aload_n dX12_doLease_38 rfl ?_
        refine o_iload_n dX12_doLease_39 rfl ?_
        refine o_cV _ (ct_X12_isOut hl (d + 1) g M hsr hwk j hj) dX12_doLease_40 ml_X12_96 yw_X12_isOut rfl (by decide) (by omega) (by decide) rfl rfl rfl (Nat.le_of_ble_eq_true rfl) ?_
        refine o_ifb_eq (tgt := 52) dX12_doLease_43 (by decide) (fun c_43 => ?_) (fun c_43 => ?_)
        · skip
          refine o_aload_n dX12_doLease_52 rfl ?_
          refine o_iload_n dX12_doLease_53 rfl ?_
          refine o_iconst dX12_doLease_54 ?_
          refine o_cV _ (ct_X12_of hl (d + 2) g j 0 (by omega) (by decide)) dX12_doLease_55 ml_X12_58 yw_X12_of rfl (by decide) (by omega) (by decide) rfl rfl rfl (Nat.le_of_ble_eq_true rfl) ?_
          refine o_iload_n dX12_doLease_58 rfl ?_
          rw [show g 193 (25 + 5 * j + 0) = M 4 j from hl8.1]
          have hpr := o_pr hb8.1.1 hb8.1.2 (show 1 ≤ t by omega) (by omega)
          refine o_imul dX12_doLease_59 ?_
          refine o_istore dX12_doLease_60 (by decide) ?_
          refine o_aload_n dX12_doLease_62 rfl ?_
          refine o_iload_n dX12_doLease_63 rfl ?_
          refine o_iconst dX12_doLease_64 ?_
          refine o_cV _ (ct_X12_ofShip hl (d + 2) g i 0 (by omega) (by decide)) dX12_doLease_65 ml_X12_99 yw_X12_ofShip rfl (by decide) (by omega) (by decide) rfl rfl rfl (Nat.le_of_ble_eq_true rfl) ?_
          rw [show g 193 (7 + 3 * i + 0) = M 1 i from hs8.1]
          refine o_iload dX12_doLease_68 rfl ?_
          refine o_icmp_ge (tgt := 79) dX12_doLease_70 (by decide) ⟨by omega, by omega⟩ ⟨by omega, by omega⟩ (fun c_70 => ?_) (fun c_70 => ?_)
          · skip
            refine o_aload_n dX12_doLease_79 rfl ?_
            refine o_iload_n dX12_doLease_80 rfl ?_
            refine o_iload dX12_doLease_81 rfl ?_
            refine o_cVm _ (ct_X12_pays hl (d + 2) g M hsr hwk i hi (M 4 j * t)) dX12_doLease_83 ml_X12_102 yw_X12_pays rfl (by decide) (by omega) (by decide) rfl rfl rfl (Nat.le_of_ble_eq_true rfl) (fun g_83 q_83 => ?_)
            refine o_aload_n dX12_doLease_86 rfl ?_
            refine o_iload_n dX12_doLease_87 rfl ?_
            refine o_iconst dX12_doLease_88 ?_
            refine o_iload_n dX12_doLease_89 rfl ?_
            refine o_iconst dX12_doLease_90 ?_
            refine o_iadd dX12_doLease_91 ?_
            refine o_cVm _ (ct_X12_sets hl (d + 2) g_83 j 1 (by omega) (by decide) _) dX12_doLease_92 ml_X12_66 yw_X12_sets rfl (by decide) (by omega) (by decide) rfl rfl rfl (Nat.le_of_ble_eq_true rfl) (fun g_92 q_92 => ?_)
            have h_92 := sr_5' q_83.1 hw2 hw5 q_92 (by omega) rfl
            have v_92 : g_92 193 3 = M 0 3 := by have t := h_92.1.2.2.2.1; exact t
            refine o_aload_n dX12_doLease_95 rfl ?_
            refine o_iload_n dX12_doLease_96 rfl ?_
            refine o_iconst dX12_doLease_97 ?_
            refine o_aload_n dX12_doLease_98 rfl ?_
            refine o_gf dX12_doLease_99 fl_X12_9 rfl (by decide) rfl ?_
            refine o_iconst dX12_doLease_102 ?_
            refine o_ialdn (j := 3) dX12_doLease_103 (by decide) rfl (by decide) (by first | rfl | omega) (by omega) ?_
            refine o_iload_n dX12_doLease_104 rfl ?_
            refine o_iadd dX12_doLease_105 ?_
            refine o_cVm _ (ct_X12_sets hl (d + 2) g_92 j 2 (by omega) (by decide) _) dX12_doLease_106 ml_X12_66 yw_X12_sets rfl (by decide) (by omega) (by decide) rfl rfl rfl (Nat.le_of_ble_eq_true rfl) (fun g_106 q_106 => ?_)
            have h_106 := sr_6' h_92 hw2 hw5 q_106 (by omega) (show g_92 193 3 + t = M 0 3 + t by omega)
            have v_106 : g_106 193 3 = M 0 3 := by have t := h_106.1.2.2.2.1; exact t
            refine o_aload_n dX12_doLease_109 rfl ?_
            refine o_gf dX12_doLease_110 fl_X12_9 rfl (by decide) rfl ?_
            refine o_iconst dX12_doLease_113 ?_
            refine o_ialdn (j := 3) dX12_doLease_114 (by decide) rfl (by decide) (by first | rfl | omega) (by omega) ?_
            refine o_iload_n dX12_doLease_115 rfl ?_
            refine o_iadd dX12_doLease_116 ?_
            refine o_ret1 dX12_doLease_117 trivial ?_
            exact o_doY (by unfold r_lease; (try simp only [Int.toNat_natCast] at *); (repeat' split) <;> omega) (by omega) ⟨h_106, o_fr_e' (o_fr_e' q_83.2 q_92 (show o_mc _ from rfl)) q_106 (show o_mc _ from rfl)⟩
          · skip
            refine o_aload_n dX12_doLease_73 rfl ?_
            refine o_iconst dX12_doLease_74 ?_
            refine o_cVm _ (ct_X12_fails hl (d + 2) g 4) dX12_doLease_75 ml_X12_70 yw_X12_fails rfl (by decide) (by omega) (by decide) rfl rfl rfl (Nat.le_of_ble_eq_true rfl) (fun g_75 q_75 => ?_)
            refine o_ret1 dX12_doLease_78 trivial ?_
            exact o_doF (k := r_lease M (i : Int) (j : Int) t) (c := 4) (by unfold r_lease; (try simp only [Int.toNat_natCast] at *); (repeat' split) <;> omega) (by decide) q_75
        · skip
          refine o_aload_n dX12_doLease_46 rfl ?_
          refine o_iconst dX12_doLease_47 ?_
          refine o_cVm _ (ct_X12_fails hl (d + 2) g 3) dX12_doLease_48 ml_X12_70 yw_X12_fails rfl (by decide) (by omega) (by decide) rfl rfl rfl (Nat.le_of_ble_eq_true rfl) (fun g_48 q_48 => ?_)
          refine o_ret1 dX12_doLease_51 trivial ?_
          exact o_doF (k := r_lease M (i : Int) (j : Int) t) (c := 3) (by unfold r_lease; (try simp only [Int.toNat_natCast] at *); (repeat' split) <;> omega) (by decide) q_48
      · skip
        refine o_aload_n dX12_doLease_32 rfl ?_
        refine o_iconst dX12_doLease_33 ?_
        refine o_cVm _ (ct_X12_fails hl (d + 2) g 2) dX12_doLease_34 ml_X12_70 yw_X12_fails rfl (by decide) (by omega) (by decide) rfl rfl rfl (Nat.le_of_ble_eq_true rfl) (fun g_34 q_34 => ?_)
        refine o_ret1 dX12_doLease_37 trivial ?_
        exact o_doF (k := r_lease M (i : Int) (j : Int) t) (c := 2) (by unfold r_lease; (try simp only [Int.toNat_natCast] at *); (repeat' split) <;> omega) (by decide) q_34
    · skip
      refine o_aload_n dX12_doLease_16 rfl ?_
      refine o_iconst dX12_doLease_17 ?_
      refine o_cVm _ (ct_X12_fails hl (d + 2) g 1) dX12_doLease_18 ml_X12_70 yw_X12_fails rfl (by decide) (by omega) (by decide) rfl rfl rfl (Nat.le_of_ble_eq_true rfl) (fun g_18 q_18 => ?_)
      refine o_ret1 dX12_doLease_21 trivial ?_
      exact o_doF (k := r_lease M s x t) (c := 1) (by unfold r_lease; (try simp only [Int.toNat_natCast] at *); (repeat' split) <;> omega) (by decide) q_18
set_option maxRecDepth 100000 in
set_option maxHeartbeats 4000000 in
/-- doPassHours(t) -/
theorem ct_X12_doPassHours {l : Launch} (hl : l.stackTraces = false) (d : Nat) (g : Nat → Nat → Int) (M : Nat → Nat → Int) (hsr : o_sr (g 193) M) (hwf : o_wf M) (t : Int) (ht : o_R t) (hh : M 0 3 + 48 ≤ 1000000) : o_Ct l yX12_doPassHours wX12_doPassHours (d + 5) o_no [.ref 192, .int (o_I t)] o_N (o_mem g) 0 0 (r_do (r_wait t) (n_pass M t.toNat) (m_pass M t.toNat) g) := by
  refine o_Ct.ofV hl mX12_doPassHours (by decide +kernel) rfl rfl rfl (Nat.le_of_ble_eq_true rfl) ?_
  have hh3 := hwf.1.2.1.2.2.1
  obtain ⟨t1, t2⟩ := id ht
  have key := fun (ht8 : 1 ≤ t ∧ t ≤ 48) => o_lp (fun i => ∀ g1, o_sg g1 (o_fd m_hour1 M i) → o_fr o_mc g g1 → o_V l mX12_doPassHours (d + 5) o_no (r_do (r_wait t) (n_pass M t.toNat) (m_pass M t.toNat) g) 20 [(0, .ref 192), (1, .int (o_I t)), (2, .int (o_I (n_pass M i))), (3, .int (o_I ((i : Nat) : Int)))] [] o_N (o_mem g1) 0 0) t.toNat (fun i hi ih g1 h1 f1 => by
    have e9 : o_fd m_hour1 M (i + 1) = m_hour1 (o_fd m_hour1 M i) i := rfl
    have ki := (show o_wf (o_fd m_hour1 M i) ∧ (o_fd m_hour1 M i) 0 3 = M 0 3 + i from wf_pass hwf i (by omega))
    obtain ⟨Mi, hMi⟩ : ∃ Mi, Mi = o_fd m_hour1 M i := ⟨_, rfl⟩
    rw [← hMi] at h1 ki e9
    have en : n_pass M (i + 1) = n_pass M i + n_hour Mi := by rw [hMi]; rfl
    have hh5 := ki.2
    refine o_iload_n dX12_doPassHours_20 rfl ?_
    refine o_iload_n dX12_doPassHours_21 rfl ?_
    refine o_icmp_ge (tgt := 52) dX12_doPassHours_22 (by decide) ⟨by omega, by omega⟩ ⟨by omega, by omega⟩ (fun c_22 => ?_) (fun c_22 => ?_)
    · skip
      refine o_iload_n dX12_doPassHours_52 rfl ?_
      refine o_ret1 dX12_doPassHours_53 trivial ?_
      have e : i = t.toNat := by omega
      rw [hMi] at h1
      rw [e] at h1 ⊢
      exact o_doY (by unfold r_wait; (try simp only [Int.toNat_natCast] at *); (repeat' split) <;> omega) rfl ⟨h1, f1⟩
    · skip
      have k1 := (ke_m_renews ki.1.1).1
      have k2 : o_ke (m_renews Mi) (m_burns (m_renews Mi)) := ke_burns k1.1 _ (Nat.le_refl _)
      have k3 : o_ke (m_burns (m_renews Mi)) (m_fines (m_burns (m_renews Mi))) := ke_fines k2.1 _ (Nat.le_refl _)
      refine o_aload_n dX12_doPassHours_25 rfl ?_
      refine o_cVm _ (ct_X12_renews hl d g1 Mi h1 ki.1.1) dX12_doPassHours_26 ml_X12_129 yw_X12_renews rfl (by decide) (by omega) (by decide) rfl rfl rfl (Nat.le_of_ble_eq_true rfl) (fun g_26 q_26 => ?_)
      refine o_aload_n dX12_doPassHours_29 rfl ?_
      refine o_cVm _ (ct_X12_burns hl (d + 1) g_26 (m_renews Mi) q_26.1 k1.1) dX12_doPassHours_30 ml_X12_132 yw_X12_burns rfl (by decide) (by omega) (by decide) rfl rfl rfl (Nat.le_of_ble_eq_true rfl) (fun g_30 q_30 => ?_)
      refine o_istore dX12_doPassHours_33 (by decide) ?_
      refine o_aload_n dX12_doPassHours_35 rfl ?_
      refine o_cVm _ (ct_X12_fines hl d g_30 (m_burns (m_renews Mi)) q_30.1 k2.1) dX12_doPassHours_36 ml_X12_135 yw_X12_fines rfl (by decide) (by omega) (by decide) rfl rfl rfl (Nat.le_of_ble_eq_true rfl) (fun g_36 q_36 => ?_)
      refine o_iload_n dX12_doPassHours_39 rfl ?_
      refine o_aload_n dX12_doPassHours_40 rfl ?_
      refine o_cVm _ (ct_X12_endsLeases hl (d + 1) g_36 (m_fines (m_burns (m_renews Mi))) q_36.1 k3.1 (by have t1 := (o_ke_t k1 (o_ke_t k2 k3)).2.2.2.1; omega)) dX12_doPassHours_41 ml_X12_138 yw_X12_endsLeases rfl (by decide) (by omega) (by decide) rfl rfl rfl (Nat.le_of_ble_eq_true rfl) (fun g_41 q_41 => ?_)
      refine o_iadd dX12_doPassHours_44 ?_
      refine o_istore_n dX12_doPassHours_45 (by decide) ?_
      refine o_iinc dX12_doPassHours_46 rfl (by decide) ?_
      refine o_goto (tgt := 20) dX12_doPassHours_49 (by decide) ?_
      refine o_loc [(0, .ref 192), (1, .int (o_I t)), (2, .int (o_I (n_pass M (i + 1)))), (3, .int (o_I (((i + 1) : Nat) : Int)))] (by rw [en]; rfl) (ih (by omega) g_41 (by rw [e9]; exact q_41.1) (o_fr_t (o_fr_t (o_fr_t (o_fr_t f1 q_26.2) q_30.2) q_36.2) q_41.2)))
  refine o_iconst dX12_doPassHours_0 ?_
  refine o_istore_n dX12_doPassHours_1 (by decide) ?_
  refine o_iload_n dX12_doPassHours_2 rfl ?_
  refine o_iconst dX12_doPassHours_3 ?_
  refine o_bipush dX12_doPassHours_4 (by decide) ?_
  refine o_cS _ (ct_X12_in hl d g t ht 1 ⟨by omega, by omega⟩ 48 ⟨by omega, by omega⟩) dX12_doPassHours_6 ml_X12_54 ys_X12_in rfl (by decide) (by omega) rfl (Nat.le_of_ble_eq_true rfl) ?_
  refine o_ifb_ne (tgt := 18) dX12_doPassHours_9 (by decide) (fun c_9 => ?_) (fun c_9 => ?_)
  · skip
    refine o_iconst dX12_doPassHours_18 ?_
    refine o_istore_n dX12_doPassHours_19 (by decide) ?_
    exact o_loc _ rfl (key (by omega) 0 (Nat.zero_le _) g hsr o_fr_r)
  · skip
    refine o_aload_n dX12_doPassHours_12 rfl ?_
    refine o_iconst dX12_doPassHours_13 ?_
    refine o_cVm _ (ct_X12_fails hl d g 1) dX12_doPassHours_14 ml_X12_70 yw_X12_fails rfl (by decide) (by omega) (by decide) rfl rfl rfl (Nat.le_of_ble_eq_true rfl) (fun g_14 q_14 => ?_)
    refine o_ret1 dX12_doPassHours_17 trivial ?_
    exact o_doF (k := r_wait t) (c := 1) (by unfold r_wait; (try simp only [Int.toNat_natCast] at *); (repeat' split) <;> omega) (by decide) q_14
