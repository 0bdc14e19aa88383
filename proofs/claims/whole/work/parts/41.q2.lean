set_option maxRecDepth 100000 in
set_option maxHeartbeats 4000000 in
/-- lessee(i) -/
theorem ct_X12_lessee {l : Launch} (hl : l.stackTraces = false) (d : Nat) (g : Nat → Nat → Int) (M : Nat → Nat → Int) (hsr : o_sr (g 193) M) (hwk : o_wk M) (i : Int) (hi : o_R i) : o_Ct l yX12_lessee wX12_lessee (d + 4) o_no [.ref 192, .int (o_I i)] o_N (o_mem g) 0 0 (r_k (r_unl M i) (M 5 i.toNat - 1) g) := by
  refine o_Ct.ofV hl mX12_lessee (by decide +kernel) rfl rfl rfl (Nat.le_of_ble_eq_true rfl) ?_
  obtain ⟨⟨hr0, hr1, hr2, hr3, hr4, hr5, hr6⟩, hrs, hrl, hrq⟩ := id hsr
  obtain ⟨hws, hwl, hwq, hwo, hwle, hwrq, hwrd⟩ := id hwk
  obtain ⟨hw1, hw2, hw3⟩ := id hws
  obtain ⟨hw4, hw5, hw6, hw7, hw8⟩ := id hwl
  obtain ⟨hw9, hw10, hw11⟩ := id hwq
  obtain ⟨i1, i2⟩ := id hi
  refine o_aload_n dX12_lessee_0 rfl ?_
  refine o_aload_n dX12_lessee_1 rfl ?_
  refine o_iload_n dX12_lessee_2 rfl ?_
  refine o_cV _ (ct_X12_isLamp hl d g M hsr hwk i hi) dX12_lessee_3 ml_X12_93 yw_X12_isLamp rfl (by decide) (by omega) (by decide) rfl rfl rfl (Nat.le_of_ble_eq_true rfl) ?_
  refine o_ifb_ne (tgt := 13) dX12_lessee_6 (by decide) (fun c_6 => ?_) (fun c_6 => ?_)
  · skip
    obtain ⟨j, rfl⟩ : ∃ j : Nat, (j : Int) = i := ⟨i.toNat, by omega⟩
    have hj : (j : Int) < M 0 1 := by omega
    have hjs := hrl j hj
    have hb8 := hw8 j hj
    refine o_aload_n dX12_lessee_13 rfl ?_
    refine o_iload_n dX12_lessee_14 rfl ?_
    refine o_cV _ (ct_X12_isOut hl d g M hsr hwk j hj) dX12_lessee_15 ml_X12_96 yw_X12_isOut rfl (by decide) (by omega) (by decide) rfl rfl rfl (Nat.le_of_ble_eq_true rfl) ?_
    refine o_ifb_ne (tgt := 25) dX12_lessee_18 (by decide) (fun c_18 => ?_) (fun c_18 => ?_)
    · skip
      refine o_iconst dX12_lessee_25 ?_
      refine o_pmE dX12_lessee_26 fp_X12_42 rfl (by decide) (Nat.le_of_ble_eq_true rfl) rfl rfl (fun _ => rfl) (by decide) (fun g_26 e_26 => ?_)
      refine o_aload_n dX12_lessee_29 rfl ?_
      refine o_gf dX12_lessee_30 fl_X12_42 rfl (by decide) rfl ?_
      have v_T : g_26 192 7 = 0 := by rw [e_26, o_e_s]
      rw [v_T]
      refine o_if_le (tgt := 40) dX12_lessee_33 (by decide) ⟨by omega, by omega⟩ (fun _ => ?_) (fun c => absurd (by decide) c)
      refine o_aload_n dX12_lessee_40 rfl ?_
      refine o_iload_n dX12_lessee_41 rfl ?_
      refine o_iconst dX12_lessee_42 ?_
      refine o_cV _ (ct_X12_of hl d g_26 j 1 (by omega) (by decide)) dX12_lessee_43 ml_X12_58 yw_X12_of rfl (by decide) (by omega) (by decide) rfl rfl rfl (Nat.le_of_ble_eq_true rfl) ?_
      refine o_iconst dX12_lessee_46 ?_
      refine o_isub dX12_lessee_47 ?_
      refine o_ret1 dX12_lessee_48 trivial ?_
      refine r_kY (by unfold r_unl; rw [if_neg (by omega), if_pos (by simpa using c_18)]) (by simp only [Int.toNat_natCast]; have t := (sr_n hsr e_26).2.2.1 j hj; omega) (by rw [e_26]; unfold r_unl; rw [if_neg (by omega), if_pos (by simpa using c_18)])
    · skip
      refine o_iconst dX12_lessee_21 ?_
      refine o_goto (tgt := 26) dX12_lessee_22 (by decide) ?_
      refine o_pmE dX12_lessee_26 fp_X12_42 rfl (by decide) (Nat.le_of_ble_eq_true rfl) rfl rfl (fun _ => rfl) (by decide) (fun g_26 e_26 => ?_)
      refine o_aload_n dX12_lessee_29 rfl ?_
      refine o_gf dX12_lessee_30 fl_X12_42 rfl (by decide) rfl ?_
      have v_T : g_26 192 7 = 2 := by rw [e_26, o_e_s]
      rw [v_T]
      refine o_if_le (tgt := 40) dX12_lessee_33 (by decide) ⟨by omega, by omega⟩ (fun c => absurd c (by decide)) (fun _ => ?_)
      refine o_iconst dX12_lessee_36 ?_
      refine o_goto (tgt := 48) dX12_lessee_37 (by decide) ?_
      refine o_ret1 dX12_lessee_48 trivial ?_
      exact r_kN (by unfold r_unl; rw [if_neg (by omega), if_neg (by simpa using c_18)]; decide) (by rw [e_26]; unfold r_unl; rw [if_neg (by omega), if_neg (by simpa using c_18)])
  · skip
    refine o_iconst dX12_lessee_9 ?_
    refine o_goto (tgt := 26) dX12_lessee_10 (by decide) ?_
    refine o_pmE dX12_lessee_26 fp_X12_42 rfl (by decide) (Nat.le_of_ble_eq_true rfl) rfl rfl (fun _ => rfl) (by decide) (fun g_26 e_26 => ?_)
    refine o_aload_n dX12_lessee_29 rfl ?_
    refine o_gf dX12_lessee_30 fl_X12_42 rfl (by decide) rfl ?_
    have v_T : g_26 192 7 = 1 := by rw [e_26, o_e_s]
    rw [v_T]
    refine o_if_le (tgt := 40) dX12_lessee_33 (by decide) ⟨by omega, by omega⟩ (fun c => absurd c (by decide)) (fun _ => ?_)
    refine o_iconst dX12_lessee_36 ?_
    refine o_goto (tgt := 48) dX12_lessee_37 (by decide) ?_
    refine o_ret1 dX12_lessee_48 trivial ?_
    exact r_kN (by unfold r_unl; rw [if_pos (by omega)]; decide) (by rw [e_26]; unfold r_unl; rw [if_pos (by omega)])
set_option maxRecDepth 100000 in
set_option maxHeartbeats 4000000 in
/-- endHour(i) -/
theorem ct_X12_endHour {l : Launch} (hl : l.stackTraces = false) (d : Nat) (g : Nat → Nat → Int) (M : Nat → Nat → Int) (hsr : o_sr (g 193) M) (hwk : o_wk M) (i : Int) (hi : o_R i) : o_Ct l yX12_endHour wX12_endHour (d + 4) o_no [.ref 192, .int (o_I i)] o_N (o_mem g) 0 0 (r_k (r_unl M i) (M 6 i.toNat) g) := by
  refine o_Ct.ofV hl mX12_endHour (by decide +kernel) rfl rfl rfl (Nat.le_of_ble_eq_true rfl) ?_
  obtain ⟨⟨hr0, hr1, hr2, hr3, hr4, hr5, hr6⟩, hrs, hrl, hrq⟩ := id hsr
  obtain ⟨hws, hwl, hwq, hwo, hwle, hwrq, hwrd⟩ := id hwk
  obtain ⟨hw1, hw2, hw3⟩ := id hws
  obtain ⟨hw4, hw5, hw6, hw7, hw8⟩ := id hwl
  obtain ⟨hw9, hw10, hw11⟩ := id hwq
  obtain ⟨i1, i2⟩ := id hi
  refine o_aload_n dX12_endHour_0 rfl ?_
  refine o_aload_n dX12_endHour_1 rfl ?_
  refine o_iload_n dX12_endHour_2 rfl ?_
  refine o_cV _ (ct_X12_isLamp hl d g M hsr hwk i hi) dX12_endHour_3 ml_X12_93 yw_X12_isLamp rfl (by decide) (by omega) (by decide) rfl rfl rfl (Nat.le_of_ble_eq_true rfl) ?_
  refine o_ifb_ne (tgt := 13) dX12_endHour_6 (by decide) (fun c_6 => ?_) (fun c_6 => ?_)
  · skip
    obtain ⟨j, rfl⟩ : ∃ j : Nat, (j : Int) = i := ⟨i.toNat, by omega⟩
    have hj : (j : Int) < M 0 1 := by omega
    have hjs := hrl j hj
    have hb8 := hw8 j hj
    refine o_aload_n dX12_endHour_13 rfl ?_
    refine o_iload_n dX12_endHour_14 rfl ?_
    refine o_cV _ (ct_X12_isOut hl d g M hsr hwk j hj) dX12_endHour_15 ml_X12_96 yw_X12_isOut rfl (by decide) (by omega) (by decide) rfl rfl rfl (Nat.le_of_ble_eq_true rfl) ?_
    refine o_ifb_ne (tgt := 25) dX12_endHour_18 (by decide) (fun c_18 => ?_) (fun c_18 => ?_)
    · skip
      refine o_iconst dX12_endHour_25 ?_
      refine o_pmE dX12_endHour_26 fp_X12_42 rfl (by decide) (Nat.le_of_ble_eq_true rfl) rfl rfl (fun _ => rfl) (by decide) (fun g_26 e_26 => ?_)
      refine o_aload_n dX12_endHour_29 rfl ?_
      refine o_gf dX12_endHour_30 fl_X12_42 rfl (by decide) rfl ?_
      have v_T : g_26 192 7 = 0 := by rw [e_26, o_e_s]
      rw [v_T]
      refine o_if_le (tgt := 40) dX12_endHour_33 (by decide) ⟨by omega, by omega⟩ (fun _ => ?_) (fun c => absurd (by decide) c)
      refine o_aload_n dX12_endHour_40 rfl ?_
      refine o_iload_n dX12_endHour_41 rfl ?_
      refine o_iconst dX12_endHour_42 ?_
      refine o_cV _ (ct_X12_of hl d g_26 j 2 (by omega) (by decide)) dX12_endHour_43 ml_X12_58 yw_X12_of rfl (by decide) (by omega) (by decide) rfl rfl rfl (Nat.le_of_ble_eq_true rfl) ?_
      refine o_ret1 dX12_endHour_46 trivial ?_
      refine r_kY (by unfold r_unl; rw [if_neg (by omega), if_pos (by simpa using c_18)]) (by simp only [Int.toNat_natCast]; have t := (sr_n hsr e_26).2.2.1 j hj; omega) (by rw [e_26]; unfold r_unl; rw [if_neg (by omega), if_pos (by simpa using c_18)])
    · skip
      refine o_iconst dX12_endHour_21 ?_
      refine o_goto (tgt := 26) dX12_endHour_22 (by decide) ?_
      refine o_pmE dX12_endHour_26 fp_X12_42 rfl (by decide) (Nat.le_of_ble_eq_true rfl) rfl rfl (fun _ => rfl) (by decide) (fun g_26 e_26 => ?_)
      refine o_aload_n dX12_endHour_29 rfl ?_
      refine o_gf dX12_endHour_30 fl_X12_42 rfl (by decide) rfl ?_
      have v_T : g_26 192 7 = 2 := by rw [e_26, o_e_s]
      rw [v_T]
      refine o_if_le (tgt := 40) dX12_endHour_33 (by decide) ⟨by omega, by omega⟩ (fun c => absurd c (by decide)) (fun _ => ?_)
      refine o_iconst dX12_endHour_36 ?_
      refine o_goto (tgt := 46) dX12_endHour_37 (by decide) ?_
      refine o_ret1 dX12_endHour_46 trivial ?_
      exact r_kN (by unfold r_unl; rw [if_neg (by omega), if_neg (by simpa using c_18)]; decide) (by rw [e_26]; unfold r_unl; rw [if_neg (by omega), if_neg (by simpa using c_18)])
  · skip
    refine o_iconst dX12_endHour_9 ?_
    refine o_goto (tgt := 26) dX12_endHour_10 (by decide) ?_
    refine o_pmE dX12_endHour_26 fp_X12_42 rfl (by decide) (Nat.le_of_ble_eq_true rfl) rfl rfl (fun _ => rfl) (by decide) (fun g_26 e_26 => ?_)
    refine o_aload_n dX12_endHour_29 rfl ?_
    refine o_gf dX12_endHour_30 fl_X12_42 rfl (by decide) rfl ?_
    have v_T : g_26 192 7 = 1 := by rw [e_26, o_e_s]
    rw [v_T]
    refine o_if_le (tgt := 40) dX12_endHour_33 (by decide) ⟨by omega, by omega⟩ (fun c => absurd c (by decide)) (fun _ => ?_)
    refine o_iconst dX12_endHour_36 ?_
    refine o_goto (tgt := 46) dX12_endHour_37 (by decide) ?_
    refine o_ret1 dX12_endHour_46 trivial ?_
    exact r_kN (by unfold r_unl; rw [if_pos (by omega)]; decide) (by rw [e_26]; unfold r_unl; rw [if_pos (by omega)])
set_option maxRecDepth 100000 in
set_option maxHeartbeats 4000000 in
/-- mostBright() -/
theorem ct_X12_mostBright {l : Launch} (hl : l.stackTraces = false) (d : Nat) (g : Nat → Nat → Int) (M : Nat → Nat → Int) (hsr : o_sr (g 193) M) (hwk : o_wk M) : o_Ct l yX12_mostBright wX12_mostBright (d + 3) o_no [.ref 192] o_N (o_mem g) 0 0 (r_q True (n_oc M 3) g) := by
  refine o_Ct.ofV hl mX12_mostBright (by decide +kernel) rfl rfl rfl (Nat.le_of_ble_eq_true rfl) ?_
  obtain ⟨⟨hr0, hr1, hr2, hr3, hr4, hr5, hr6⟩, hrs, hrl, hrq⟩ := id hsr
  obtain ⟨hws, hwl, hwq, hwo, hwle, hwrq, hwrd⟩ := id hwk
  obtain ⟨hw1, hw2, hw3⟩ := id hws
  obtain ⟨hw4, hw5, hw6, hw7, hw8⟩ := id hwl
  obtain ⟨hw9, hw10, hw11⟩ := id hwq
  have key : ∀ g_2, g_2 = o_e g 192 7 0 → _ := fun g_2 e_2 => by
    have h2 := sr_n hsr e_2
    have hr1' : g_2 193 1 = M 0 1 := h2.1.2.1
    exact o_lp (fun k => o_V l mX12_mostBright (d + 3) o_no (r_q True (n_oc M 3) g) 16 [(0, .ref 192), (1, .int (o_I (n_oo M k))), (2, .int (o_I (n_oc M k))), (3, .int (o_I (((k) + 1 : Nat) : Int)))] [] o_N (o_mem g_2) 0 0) 3 (fun k hi ih => by
      have hok := n_oo_R hwo k
      have keyn := fun (hk3 : k < 3) => o_lp (fun i => o_V l mX12_mostBright (d + 3) o_no (r_q True (n_oc M 3) g) 24 [(0, .ref 192), (1, .int (o_I (n_lo M (n_oo M k) ((k + 1 : Nat) : Int) i))), (2, .int (o_I (n_oc M k + n_lc M (n_oo M k) ((k + 1 : Nat) : Int) i))), (3, .int (o_I ((k + 1 : Nat) : Int))), (4, .int (o_I ((i : Nat) : Int)))] [] o_N (o_mem g_2) 0 0) (M 0 1).toNat (fun i hin ihn => by
        refine o_iload dX12_mostBright_24 rfl ?_
        refine o_aload_n dX12_mostBright_26 rfl ?_
        refine o_gf dX12_mostBright_27 fl_X12_9 rfl (by decide) rfl ?_
        refine o_iconst dX12_mostBright_30 ?_
        refine o_ialdn (j := 1) dX12_mostBright_31 (by decide) rfl (by decide) (by first | rfl | omega) (by omega) ?_
        refine o_icmp_ge (tgt := 99) dX12_mostBright_32 (by decide) ⟨by omega, by omega⟩ ⟨by omega, by omega⟩ (fun c_32 => ?_) (fun c_32 => ?_)
        · skip
          refine o_iinc dX12_mostBright_99 rfl (by decide) ?_
          refine o_goto (tgt := 16) dX12_mostBright_102 (by decide) ?_
          exact o_loc [(0, .ref 192), (1, .int (o_I (n_oo M (k + 1)))), (2, .int (o_I (n_oc M (k + 1)))), (3, .int (o_I ((((k + 1)) + 1 : Nat) : Int)))] (by rw [show i = (M 0 1).toNat by omega]; rfl) (ih (by omega))
        · skip
          have hi9 : (i : Int) < M 0 1 := by omega
          have hb8 := hw8 i hi9
          have hl8 := h2.2.2.1 i hi9
          have hl80 : g_2 193 (25 + 5 * i + 0) = M 4 i := hl8.1
          have ho9 := n_lo_R (M := M) (v := ((k + 1 : Nat) : Int)) hok (by omega) i
          refine o_aload_n dX12_mostBright_35 rfl ?_
          refine o_iload dX12_mostBright_36 rfl ?_
          refine o_cV _ (ct_X12_isOut hl d g_2 M h2 hwk i hi9) dX12_mostBright_38 ml_X12_96 yw_X12_isOut rfl (by decide) (by omega) (by decide) rfl rfl rfl (Nat.le_of_ble_eq_true rfl) ?_
          refine o_ifb_eq (tgt := 64) dX12_mostBright_41 (by decide) (fun c_41 => ?_) (fun c_41 => ?_)
          · skip
            refine o_iconst dX12_mostBright_64 ?_
            refine o_istore dX12_mostBright_65 (by decide) ?_
            refine o_iload_n dX12_mostBright_67 rfl ?_
            refine o_iload dX12_mostBright_68 rfl ?_
            refine o_if_eq (tgt := 77) dX12_mostBright_70 (by decide) ⟨by omega, by omega⟩ (fun _ => ?_) (fun c => absurd rfl c)
            refine o_iconst dX12_mostBright_77 ?_
            refine o_isub dX12_mostBright_78 ?_
            refine o_istore_n dX12_mostBright_79 (by decide) ?_
            refine o_iload_n dX12_mostBright_80 rfl ?_
            refine o_iload dX12_mostBright_81 rfl ?_
            refine o_if_eq (tgt := 90) dX12_mostBright_83 (by decide) ⟨by omega, by omega⟩ (fun _ => ?_) (fun c => absurd rfl c)
            refine o_iconst dX12_mostBright_90 ?_
            refine o_iadd dX12_mostBright_91 ?_
            refine o_istore_n dX12_mostBright_92 (by decide) ?_
            refine o_iinc dX12_mostBright_93 rfl (by decide) ?_
            refine o_goto (tgt := 24) dX12_mostBright_96 (by decide) ?_
            exact o_loc [(0, .ref 192), (1, .int (o_I (n_lo M (n_oo M k) ((k + 1 : Nat) : Int) (i + 1)))), (2, .int (o_I (n_oc M k + n_lc M (n_oo M k) ((k + 1 : Nat) : Int) (i + 1)))), (3, .int (o_I ((k + 1 : Nat) : Int))), (4, .int (o_I (((i + 1) : Nat) : Int)))] (by simp only [n_lo, n_lc]; rw [if_neg (fun q => c_41 q.1), o_b0 (fun q => c_41 q.1), ← Int.add_assoc]; simp only [Int.sub_zero]; rfl) (ihn (by omega))
          · skip
            refine o_aload_n dX12_mostBright_44 rfl ?_
            refine o_iload dX12_mostBright_45 rfl ?_
            refine o_iconst dX12_mostBright_47 ?_
            refine o_cV _ (ct_X12_of hl (d + 1) g_2 i 0 (by omega) (by decide)) dX12_mostBright_48 ml_X12_58 yw_X12_of rfl (by decide) (by omega) (by decide) rfl rfl rfl (Nat.le_of_ble_eq_true rfl) ?_
            refine o_iload_n dX12_mostBright_51 rfl ?_
            refine o_icmp_ne (tgt := 64) dX12_mostBright_52 (by decide) ⟨by omega, by omega⟩ ⟨by omega, by omega⟩ (fun c_52 => ?_) (fun c_52 => ?_)
            · skip
              refine o_iconst dX12_mostBright_64 ?_
              refine o_istore dX12_mostBright_65 (by decide) ?_
              refine o_iload_n dX12_mostBright_67 rfl ?_
              refine o_iload dX12_mostBright_68 rfl ?_
              refine o_if_eq (tgt := 77) dX12_mostBright_70 (by decide) ⟨by omega, by omega⟩ (fun _ => ?_) (fun c => absurd rfl c)
              refine o_iconst dX12_mostBright_77 ?_
              refine o_isub dX12_mostBright_78 ?_
              refine o_istore_n dX12_mostBright_79 (by decide) ?_
              refine o_iload_n dX12_mostBright_80 rfl ?_
              refine o_iload dX12_mostBright_81 rfl ?_
              refine o_if_eq (tgt := 90) dX12_mostBright_83 (by decide) ⟨by omega, by omega⟩ (fun _ => ?_) (fun c => absurd rfl c)
              refine o_iconst dX12_mostBright_90 ?_
              refine o_iadd dX12_mostBright_91 ?_
              refine o_istore_n dX12_mostBright_92 (by decide) ?_
              refine o_iinc dX12_mostBright_93 rfl (by decide) ?_
              refine o_goto (tgt := 24) dX12_mostBright_96 (by decide) ?_
              exact o_loc [(0, .ref 192), (1, .int (o_I (n_lo M (n_oo M k) ((k + 1 : Nat) : Int) (i + 1)))), (2, .int (o_I (n_oc M k + n_lc M (n_oo M k) ((k + 1 : Nat) : Int) (i + 1)))), (3, .int (o_I ((k + 1 : Nat) : Int))), (4, .int (o_I (((i + 1) : Nat) : Int)))] (by simp only [n_lo, n_lc]; rw [if_neg (fun q => c_52 (by rw [hl80]; exact q.2.1)), o_b0 (fun q => c_52 (by rw [hl80]; exact q.2.1)), ← Int.add_assoc]; simp only [Int.sub_zero]; rfl) (ihn (by omega))
            · skip
              refine o_iload_n dX12_mostBright_55 rfl ?_
              refine o_iload_n dX12_mostBright_56 rfl ?_
              refine o_icmp_gt (tgt := 64) dX12_mostBright_57 (by decide) ⟨by omega, by omega⟩ ⟨by omega, by omega⟩ (fun c_57 => ?_) (fun c_57 => ?_)
              · skip
                refine o_iconst dX12_mostBright_64 ?_
                refine o_istore dX12_mostBright_65 (by decide) ?_
                refine o_iload_n dX12_mostBright_67 rfl ?_
                refine o_iload dX12_mostBright_68 rfl ?_
                refine o_if_eq (tgt := 77) dX12_mostBright_70 (by decide) ⟨by omega, by omega⟩ (fun _ => ?_) (fun c => absurd rfl c)
                refine o_iconst dX12_mostBright_77 ?_
                refine o_isub dX12_mostBright_78 ?_
                refine o_istore_n dX12_mostBright_79 (by decide) ?_
                refine o_iload_n dX12_mostBright_80 rfl ?_
                refine o_iload dX12_mostBright_81 rfl ?_
                refine o_if_eq (tgt := 90) dX12_mostBright_83 (by decide) ⟨by omega, by omega⟩ (fun _ => ?_) (fun c => absurd rfl c)
                refine o_iconst dX12_mostBright_90 ?_
                refine o_iadd dX12_mostBright_91 ?_
                refine o_istore_n dX12_mostBright_92 (by decide) ?_
                refine o_iinc dX12_mostBright_93 rfl (by decide) ?_
                refine o_goto (tgt := 24) dX12_mostBright_96 (by decide) ?_
                exact o_loc [(0, .ref 192), (1, .int (o_I (n_lo M (n_oo M k) ((k + 1 : Nat) : Int) (i + 1)))), (2, .int (o_I (n_oc M k + n_lc M (n_oo M k) ((k + 1 : Nat) : Int) (i + 1)))), (3, .int (o_I ((k + 1 : Nat) : Int))), (4, .int (o_I (((i + 1) : Nat) : Int)))] (by simp only [n_lo, n_lc]; rw [if_neg (fun q => by have := q.2.2; omega), o_b0 (fun q => by have := q.2.2; omega), ← Int.add_assoc]; simp only [Int.sub_zero]; rfl) (ihn (by omega))
              · skip
                refine o_iconst dX12_mostBright_60 ?_
                refine o_goto (tgt := 65) dX12_mostBright_61 (by decide) ?_
                refine o_istore dX12_mostBright_65 (by decide) ?_
                refine o_iload_n dX12_mostBright_67 rfl ?_
                refine o_iload dX12_mostBright_68 rfl ?_
                refine o_if_eq (tgt := 77) dX12_mostBright_70 (by decide) ⟨by omega, by omega⟩ (fun c => absurd c (by decide)) (fun _ => ?_)
                refine o_iload_n dX12_mostBright_73 rfl ?_
                refine o_goto (tgt := 78) dX12_mostBright_74 (by decide) ?_
                refine o_isub dX12_mostBright_78 ?_
                refine o_istore_n dX12_mostBright_79 (by decide) ?_
                refine o_iload_n dX12_mostBright_80 rfl ?_
                refine o_iload dX12_mostBright_81 rfl ?_
                refine o_if_eq (tgt := 90) dX12_mostBright_83 (by decide) ⟨by omega, by omega⟩ (fun c => absurd c (by decide)) (fun _ => ?_)
                refine o_iconst dX12_mostBright_86 ?_
                refine o_goto (tgt := 91) dX12_mostBright_87 (by decide) ?_
                refine o_iadd dX12_mostBright_91 ?_
                refine o_istore_n dX12_mostBright_92 (by decide) ?_
                refine o_iinc dX12_mostBright_93 rfl (by decide) ?_
                refine o_goto (tgt := 24) dX12_mostBright_96 (by decide) ?_
                exact o_loc [(0, .ref 192), (1, .int (o_I (n_lo M (n_oo M k) ((k + 1 : Nat) : Int) (i + 1)))), (2, .int (o_I (n_oc M k + n_lc M (n_oo M k) ((k + 1 : Nat) : Int) (i + 1)))), (3, .int (o_I ((k + 1 : Nat) : Int))), (4, .int (o_I (((i + 1) : Nat) : Int)))] (by simp only [n_lo, n_lc]; rw [if_pos ⟨c_41, by omega, by omega⟩, o_b1 ⟨c_41, by omega, by omega⟩, ← Int.add_assoc]; rfl) (ihn (by omega)))
      refine o_iload_n dX12_mostBright_16 rfl ?_
      refine o_iconst dX12_mostBright_17 ?_
      refine o_icmp_ge (tgt := 105) dX12_mostBright_18 (by decide) ⟨by omega, by omega⟩ ⟨by omega, by omega⟩ (fun c_18 => ?_) (fun c_18 => ?_)
      · skip
        refine o_iload_n dX12_mostBright_105 rfl ?_
        refine o_ret1 dX12_mostBright_106 trivial ?_
        rw [show k = 3 by omega]
        exact r_qT rfl e_2
      · skip
        refine o_iconst dX12_mostBright_21 ?_
        refine o_istore dX12_mostBright_22 (by decide) ?_
        exact o_loc _ (by simp only [n_lo, n_lc, Int.add_zero]; rfl) (keyn (by omega) 0 (Nat.zero_le _)))
  refine o_aload_n dX12_mostBright_0 rfl ?_
  refine o_iconst dX12_mostBright_1 ?_
  refine o_pmE dX12_mostBright_2 fp_X12_42 rfl (by decide) (Nat.le_of_ble_eq_true rfl) rfl rfl (fun _ => rfl) (by decide) (fun g_2 e_2 => ?_)
  refine o_aload_n dX12_mostBright_5 rfl ?_
  refine o_gf dX12_mostBright_6 fl_X12_9 rfl (by decide) rfl ?_
  refine o_iconst dX12_mostBright_9 ?_
  refine o_ialdn (j := 2) dX12_mostBright_10 (by decide) rfl (by decide) (by first | rfl | omega) (by omega) ?_
  refine o_istore_n dX12_mostBright_11 (by decide) ?_
  refine o_iconst dX12_mostBright_12 ?_
  refine o_istore_n dX12_mostBright_13 (by decide) ?_
  refine o_iconst dX12_mostBright_14 ?_
  refine o_istore_n dX12_mostBright_15 (by decide) ?_
  exact o_loc _ (by rw [show g_2 193 2 = M 0 2 by rw [e_2, o_e_n (by decide)]; exact hr2]; rfl) (key g_2 e_2 0 (Nat.zero_le _))
set_option maxRecDepth 100000 in
set_option maxHeartbeats 4000000 in
/-- mostBrightBySums() -/
theorem ct_X12_mostBrightBySums {l : Launch} (hl : l.stackTraces = false) (d : Nat) (g : Nat → Nat → Int) (M : Nat → Nat → Int) (hsr : o_sr (g 193) M) (hwk : o_wk M) : o_Ct l yX12_mostBrightBySums wX12_mostBrightBySums (d + 4) o_no [.ref 192] o_N (o_mem g) 0 0 (r_q True (n_oc M 3) g) := by
  refine o_Ct.ofV hl mX12_mostBrightBySums (by decide +kernel) rfl rfl rfl (Nat.le_of_ble_eq_true rfl) ?_
  refine o_aload_n dX12_mostBrightBySums_0 rfl ?_
  refine o_cVm (Q := fun g' => g' = o_e g 192 7 (1 - o_b True)) (v := some (.int (o_I (n_oc M 3)))) _ (ct_X12_mostBright hl d g M hsr hwk) dX12_mostBrightBySums_1 ml_X12_160 yw_X12_mostBright rfl (by decide) (by omega) (by decide) rfl rfl rfl (Nat.le_of_ble_eq_true rfl) (fun g_1 q_1 => ?_)
  refine o_ret1 dX12_mostBrightBySums_4 trivial ?_
  exact r_qT rfl (by rw [q_1, o_b1 trivial]; rfl)
theorem d_sh0 {M : Nat → Nat → Int} (h : o_wk M) (hD : ¬ 0 < d_all M) {s : Nat} (hs : (s : Int) < M 0 0) : d_sh M s = 0 := by
  have hq : ∀ n, d_q M n = 0 := fun n => by unfold d_q; rw [if_neg hD]
  have hu : ∀ n, d_u M n = 0 := fun n => by
    induction n with
    | zero => simp only [d_u]; rw [if_neg hD]
    | succ n ih => simp only [d_u]; rw [ih, hq]; rfl
  have := d_rk_top hs
  unfold d_sh
  rw [hq, hu, o_b0 (by omega)]
  rfl
set_option maxRecDepth 100000 in
set_option maxHeartbeats 4000000 in
/-- partOf(s) -/
theorem ct_X12_partOf {l : Launch} (hl : l.stackTraces = false) (d : Nat) (g : Nat → Nat → Int) (M : Nat → Nat → Int) (hsr : o_sr (g 193) M) (hwk : o_wk M) (s : Nat) (hs : (s : Int) < M 0 0) : o_Ct l yX12_partOf wX12_partOf (d + 4) o_no [.ref 192, .int (o_I (s : Int))] o_N (o_mem g) 0 0 (o_is (some (.int (o_I (d_sh M s)))) o_N (o_mem g)) := by
  refine o_Ct.ofV hl mX12_partOf (by decide +kernel) rfl rfl rfl (Nat.le_of_ble_eq_true rfl) ?_
  obtain ⟨⟨hr0, hr1, hr2, hr3, hr4, hr5, hr6⟩, hrs, hrl, hrq⟩ := id hsr
  obtain ⟨hws, hwl, hwq, hwo, hwle, hwrq, hwrd⟩ := id hwk
  obtain ⟨hw1, hw2, hw3⟩ := id hws
  obtain ⟨hw4, hw5, hw6, hw7, hw8⟩ := id hwl
  obtain ⟨hw9, hw10, hw11⟩ := id hwq
  have hall := d_all_R hwl
  have hofs := d_of_R hwl (s : Int)
  have hmuls := o_mulR (a := M 0 2) (b := d_of M s) (m := 500) (k := 24) (by omega) (by omega) (by omega) (by omega)
  have hrs8 := d_r_R hwk s
  have key := fun (hD : 0 < d_all M) (ers : M 0 2 * d_of M s % d_all M = d_r M s) (eqs : M 0 2 * d_of M s / d_all M = d_q M s) => o_lp (fun i => o_V l mX12_partOf (d + 4) o_no (o_is (some (.int (o_I (d_sh M s)))) o_N (o_mem g)) 35 [(0, .ref 192), (1, .int (o_I (s : Int))), (2, .int (o_I (d_all M))), (3, .int (o_I (M 0 2 - d_u M i))), (4, .int (o_I (o_sm (fun o => o_b (d_ah M o s)) i))), (5, .int (o_I (d_r M s))), (6, .int (o_I ((i : Nat) : Int)))] [] o_N (o_mem g) 0 0) (M 0 0).toNat (fun i hi ih => by
    have hu := d_u_R hwk i
    have hrk := o_sm_b (fun o => d_ah M o s) i
    refine o_iload dX12_partOf_35 rfl ?_
    refine o_aload_n dX12_partOf_37 rfl ?_
    refine o_gf dX12_partOf_38 fl_X12_9 rfl (by decide) rfl ?_
    refine o_iconst dX12_partOf_41 ?_
    refine o_ialdn (j := 0) dX12_partOf_42 (by decide) rfl (by decide) (by first | rfl | omega) (by omega) ?_
    refine o_icmp_ge (tgt := 116) dX12_partOf_43 (by decide) ⟨by omega, by omega⟩ ⟨by omega, by omega⟩ (fun c_43 => ?_) (fun c_43 => ?_)
    · skip
      refine o_aload_n dX12_partOf_116 rfl ?_
      refine o_gf dX12_partOf_117 fl_X12_9 rfl (by decide) rfl ?_
      refine o_iconst dX12_partOf_120 ?_
      refine o_ialdn (j := 2) dX12_partOf_121 (by decide) rfl (by decide) (by first | rfl | omega) (by omega) ?_
      rw [hr2]
      refine o_aload_n dX12_partOf_122 rfl ?_
      refine o_iload_n dX12_partOf_123 rfl ?_
      refine o_cV _ (ct_X12_wants hl d g M hsr hwk s hs) dX12_partOf_124 ml_X12_148 yw_X12_wants rfl (by decide) (by omega) (by decide) rfl rfl rfl (Nat.le_of_ble_eq_true rfl) ?_
      refine o_imul dX12_partOf_127 ?_
      refine o_iload_n dX12_partOf_128 rfl ?_
      refine o_idiv dX12_partOf_129 ⟨by omega, by omega⟩ ⟨by omega, by omega⟩ (by omega) (by omega) ?_
      rw [eqs]
      refine o_iload dX12_partOf_130 rfl ?_
      refine o_aload_n dX12_partOf_132 rfl ?_
      refine o_gf dX12_partOf_133 fl_X12_9 rfl (by decide) rfl ?_
      refine o_iconst dX12_partOf_136 ?_
      refine o_ialdn (j := 2) dX12_partOf_137 (by decide) rfl (by decide) (by first | rfl | omega) (by omega) ?_
      rw [hr2]
      refine o_iload_n dX12_partOf_138 rfl ?_
      refine o_isub dX12_partOf_139 ?_
      refine o_icmp_ge (tgt := 147) dX12_partOf_140 (by decide) ⟨by omega, by omega⟩ ⟨by omega, by omega⟩ (fun c_140 => ?_) (fun c_140 => ?_)
      · skip
        refine o_iconst dX12_partOf_147 ?_
        refine o_iadd dX12_partOf_148 ?_
        refine o_ret1 dX12_partOf_149 trivial ?_
        have e : i = (M 0 0).toNat := by omega
        subst e
        rw [show d_sh M s = d_q M s + 0 by unfold d_sh; rw [o_b0 (by rw [d_rk]; omega)]]
        exact ⟨rfl, rfl, rfl⟩
      · skip
        refine o_iconst dX12_partOf_143 ?_
        refine o_goto (tgt := 148) dX12_partOf_144 (by decide) ?_
        refine o_iadd dX12_partOf_148 ?_
        refine o_ret1 dX12_partOf_149 trivial ?_
        have e : i = (M 0 0).toNat := by omega
        subst e
        rw [show d_sh M s = d_q M s + 1 by unfold d_sh; rw [o_b1 (by rw [d_rk]; omega)]]
        exact ⟨rfl, rfl, rfl⟩
    · skip
      have hi9 : (i : Int) < M 0 0 := by omega
      have hof := d_of_R hwl (i : Int)
      have hmul := o_mulR (a := M 0 2) (b := d_of M i) (m := 500) (k := 24) (by omega) (by omega) (by omega) (by omega)
      have hri := d_r_R hwk i
      have hqi := d_q_R hwk i
      have eri : M 0 2 * d_of M i % d_all M = d_r M i := by unfold d_r; rw [if_pos hD]
      have eqi : M 0 2 * d_of M i / d_all M = d_q M i := by unfold d_q; rw [if_pos hD]
      refine o_aload_n dX12_partOf_46 rfl ?_
      refine o_gf dX12_partOf_47 fl_X12_9 rfl (by decide) rfl ?_
      refine o_iconst dX12_partOf_50 ?_
      refine o_ialdn (j := 2) dX12_partOf_51 (by decide) rfl (by decide) (by first | rfl | omega) (by omega) ?_
      rw [hr2]
      refine o_aload_n dX12_partOf_52 rfl ?_
      refine o_iload dX12_partOf_53 rfl ?_
      refine o_cV _ (ct_X12_wants hl d g M hsr hwk i hi9) dX12_partOf_55 ml_X12_148 yw_X12_wants rfl (by decide) (by omega) (by decide) rfl rfl rfl (Nat.le_of_ble_eq_true rfl) ?_
      refine o_imul dX12_partOf_58 ?_
      refine o_iload_n dX12_partOf_59 rfl ?_
      refine o_irem dX12_partOf_60 ⟨by omega, by omega⟩ ⟨by omega, by omega⟩ (by omega) (by omega) ?_
      rw [eri]
      refine o_iload dX12_partOf_61 rfl ?_
      refine o_isub dX12_partOf_63 ?_
      refine o_istore dX12_partOf_64 (by decide) ?_
      refine o_iload_n dX12_partOf_66 rfl ?_
      refine o_aload_n dX12_partOf_67 rfl ?_
      refine o_gf dX12_partOf_68 fl_X12_9 rfl (by decide) rfl ?_
      refine o_iconst dX12_partOf_71 ?_
      refine o_ialdn (j := 2) dX12_partOf_72 (by decide) rfl (by decide) (by first | rfl | omega) (by omega) ?_
      rw [hr2]
      refine o_aload_n dX12_partOf_73 rfl ?_
      refine o_iload dX12_partOf_74 rfl ?_
      refine o_cV _ (ct_X12_wants hl d g M hsr hwk i hi9) dX12_partOf_76 ml_X12_148 yw_X12_wants rfl (by decide) (by omega) (by decide) rfl rfl rfl (Nat.le_of_ble_eq_true rfl) ?_
      refine o_imul dX12_partOf_79 ?_
      refine o_iload_n dX12_partOf_80 rfl ?_
      refine o_idiv dX12_partOf_81 ⟨by omega, by omega⟩ ⟨by omega, by omega⟩ (by omega) (by omega) ?_
      rw [eqi]
      refine o_iadd dX12_partOf_82 ?_
      refine o_istore_n dX12_partOf_83 (by decide) ?_
      refine o_iload dX12_partOf_84 rfl ?_
      refine o_iload dX12_partOf_86 rfl ?_
      refine o_if_gt (tgt := 102) dX12_partOf_88 (by decide) ⟨by omega, by omega⟩ (fun c_88 => ?_) (fun c_88 => ?_)
      · skip
        refine o_iconst dX12_partOf_102 ?_
        refine o_goto (tgt := 107) dX12_partOf_103 (by decide) ?_
        refine o_iadd dX12_partOf_107 ?_
        refine o_istore dX12_partOf_108 (by decide) ?_
        refine o_iinc dX12_partOf_110 rfl (by decide) ?_
        refine o_goto (tgt := 35) dX12_partOf_113 (by decide) ?_
        exact o_loc [(0, .ref 192), (1, .int (o_I (s : Int))), (2, .int (o_I (d_all M))), (3, .int (o_I (M 0 2 - d_u M (i + 1)))), (4, .int (o_I (o_sm (fun o => o_b (d_ah M o s)) (i + 1)))), (5, .int (o_I (d_r M s))), (6, .int (o_I (((i + 1) : Nat) : Int)))] (by simp only [o_sm, d_u]; rw [o_b1 (Or.inl (by omega)), show M 0 2 - (d_u M i - d_q M i) = M 0 2 - d_u M i + d_q M i by omega]; rfl) (ih (by omega))
      · skip
        refine o_iload dX12_partOf_91 rfl ?_
        refine o_if_ne (tgt := 106) dX12_partOf_93 (by decide) ⟨by omega, by omega⟩ (fun c_93 => ?_) (fun c_93 => ?_)
        · skip
          refine o_iconst dX12_partOf_106 ?_
          refine o_iadd dX12_partOf_107 ?_
          refine o_istore dX12_partOf_108 (by decide) ?_
          refine o_iinc dX12_partOf_110 rfl (by decide) ?_
          refine o_goto (tgt := 35) dX12_partOf_113 (by decide) ?_
          exact o_loc [(0, .ref 192), (1, .int (o_I (s : Int))), (2, .int (o_I (d_all M))), (3, .int (o_I (M 0 2 - d_u M (i + 1)))), (4, .int (o_I (o_sm (fun o => o_b (d_ah M o s)) (i + 1)))), (5, .int (o_I (d_r M s))), (6, .int (o_I (((i + 1) : Nat) : Int)))] (by simp only [o_sm, d_u]; rw [o_b0 (fun q => by omega), show M 0 2 - (d_u M i - d_q M i) = M 0 2 - d_u M i + d_q M i by omega]; rfl) (ih (by omega))
        · skip
          refine o_iload dX12_partOf_96 rfl ?_
          refine o_iload_n dX12_partOf_98 rfl ?_
          refine o_icmp_ge (tgt := 106) dX12_partOf_99 (by decide) ⟨by omega, by omega⟩ ⟨by omega, by omega⟩ (fun c_99 => ?_) (fun c_99 => ?_)
          · skip
            refine o_iconst dX12_partOf_106 ?_
            refine o_iadd dX12_partOf_107 ?_
            refine o_istore dX12_partOf_108 (by decide) ?_
            refine o_iinc dX12_partOf_110 rfl (by decide) ?_
            refine o_goto (tgt := 35) dX12_partOf_113 (by decide) ?_
            exact o_loc [(0, .ref 192), (1, .int (o_I (s : Int))), (2, .int (o_I (d_all M))), (3, .int (o_I (M 0 2 - d_u M (i + 1)))), (4, .int (o_I (o_sm (fun o => o_b (d_ah M o s)) (i + 1)))), (5, .int (o_I (d_r M s))), (6, .int (o_I (((i + 1) : Nat) : Int)))] (by simp only [o_sm, d_u]; rw [o_b0 (fun q => by omega), show M 0 2 - (d_u M i - d_q M i) = M 0 2 - d_u M i + d_q M i by omega]; rfl) (ih (by omega))
          · skip
            refine o_iconst dX12_partOf_102 ?_
            refine o_goto (tgt := 107) dX12_partOf_103 (by decide) ?_
            refine o_iadd dX12_partOf_107 ?_
            refine o_istore dX12_partOf_108 (by decide) ?_
            refine o_iinc dX12_partOf_110 rfl (by decide) ?_
            refine o_goto (tgt := 35) dX12_partOf_113 (by decide) ?_
            exact o_loc [(0, .ref 192), (1, .int (o_I (s : Int))), (2, .int (o_I (d_all M))), (3, .int (o_I (M 0 2 - d_u M (i + 1)))), (4, .int (o_I (o_sm (fun o => o_b (d_ah M o s)) (i + 1)))), (5, .int (o_I (d_r M s))), (6, .int (o_I (((i + 1) : Nat) : Int)))] (by simp only [o_sm, d_u]; rw [o_b1 (Or.inr ⟨by omega, by omega⟩), show M 0 2 - (d_u M i - d_q M i) = M 0 2 - d_u M i + d_q M i by omega]; rfl) (ih (by omega)))
  refine o_aload_n dX12_partOf_0 rfl ?_
  refine o_cV _ (ct_X12_needed hl d g M hsr hwk) dX12_partOf_1 ml_X12_154 yw_X12_needed rfl (by decide) (by omega) (by decide) rfl rfl rfl (Nat.le_of_ble_eq_true rfl) ?_
  refine o_istore_n dX12_partOf_4 (by decide) ?_
  refine o_iload_n dX12_partOf_5 rfl ?_
  refine o_if_ne (tgt := 11) dX12_partOf_6 (by decide) ⟨by omega, by omega⟩ (fun c_6 => ?_) (fun c_6 => ?_)
  · skip
    refine o_iconst dX12_partOf_11 ?_
    refine o_istore_n dX12_partOf_12 (by decide) ?_
    refine o_iconst dX12_partOf_13 ?_
    refine o_istore dX12_partOf_14 (by decide) ?_
    refine o_aload_n dX12_partOf_16 rfl ?_
    refine o_gf dX12_partOf_17 fl_X12_9 rfl (by decide) rfl ?_
    refine o_iconst dX12_partOf_20 ?_
    refine o_ialdn (j := 2) dX12_partOf_21 (by decide) rfl (by decide) (by first | rfl | omega) (by omega) ?_
    rw [hr2]
    refine o_aload_n dX12_partOf_22 rfl ?_
    refine o_iload_n dX12_partOf_23 rfl ?_
    refine o_cV _ (ct_X12_wants hl d g M hsr hwk s hs) dX12_partOf_24 ml_X12_148 yw_X12_wants rfl (by decide) (by omega) (by decide) rfl rfl rfl (Nat.le_of_ble_eq_true rfl) ?_
    refine o_imul dX12_partOf_27 ?_
    refine o_iload_n dX12_partOf_28 rfl ?_
    refine o_irem dX12_partOf_29 ⟨by omega, by omega⟩ ⟨by omega, by omega⟩ (by omega) (by omega) ?_
    refine o_istore dX12_partOf_30 (by decide) ?_
    refine o_iconst dX12_partOf_32 ?_
    refine o_istore dX12_partOf_33 (by decide) ?_
    have hD : 0 < d_all M := by omega
    have ers : M 0 2 * d_of M s % d_all M = d_r M s := by unfold d_r; rw [if_pos hD]
    exact o_loc _ (by rw [ers, show d_u M 0 = M 0 2 from if_pos hD, Int.sub_self]; rfl) (key hD ers (by unfold d_q; rw [if_pos hD]) 0 (Nat.zero_le _))
  · skip
    refine o_iconst dX12_partOf_9 ?_
    refine o_ret1 dX12_partOf_10 trivial ?_
    have hD : ¬ 0 < d_all M := by omega
    rw [d_sh0 hwk hD hs]
    exact ⟨rfl, rfl, rfl⟩
