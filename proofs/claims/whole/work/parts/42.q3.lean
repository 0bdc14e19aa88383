abbrev s_ah (M : Nat → Nat → Int) (i j : Nat) : Prop := M 2 j < M 2 i ∨ (M 2 j = M 2 i ∧ (M 1 i < M 1 j ∨ (M 1 i = M 1 j ∧ i < j)))
abbrev l_ah (M : Nat → Nat → Int) (i j : Nat) : Prop := M 6 i < M 6 j ∨ (M 6 i = M 6 j ∧ (M 4 j < M 4 i ∨ (M 4 j = M 4 i ∧ i < j)))
theorem s_ord (M : Nat → Nat → Int) : o_ord (s_ah M) := ⟨fun i j k h1 h2 => by omega, fun i h => by omega, fun i j h => by omega⟩
theorem l_ord (M : Nat → Nat → Int) : o_ord (l_ah M) := ⟨fun i j k h1 h2 => by omega, fun i h => by omega, fun i j h => by omega⟩
theorem s_rkP (M : Nat → Nat → Int) (s : Nat) : o_rkS M s = o_sm (fun o => o_b (True ∧ s_ah M o s)) (M 0 0).toNat := sm_eq (fun i _ => o_bc ⟨fun q => ⟨trivial, q⟩, fun q => q.2⟩)
theorem s_rk_inj {M : Nat → Nat → Int} {i j : Nat} (hi : (i : Int) < M 0 0) (hj : (j : Int) < M 0 0) (h : o_rkS M i = o_rkS M j) : i = j := by
  rw [s_rkP, s_rkP] at h
  exact rk_inj (P := fun _ => True) (s_ord M) (by omega) (by omega) trivial trivial h
theorem l_rk_inj {M : Nat → Nat → Int} {i j : Nat} (hi : (i : Int) < M 0 1) (hj : (j : Int) < M 0 1) (pi : 0 < M 5 i) (pj : 0 < M 5 j) (h : o_rkL M i = o_rkL M j) : i = j :=
  rk_inj (P := fun i => 0 < M 5 i) (R := l_ah M) (l_ord M) (n := (M 0 1).toNat) (by omega) (by omega) pi pj h
/-- the ship of a rank: there is one for each rank below the number of ships, and no other -/
theorem s_at {M : Nat → Nat → Int} (h : 0 ≤ M 0 0) {rank r : Int} (hr : o_fst (fun i => o_rkS M i = rank) (M 0 0).toNat r) : (0 ≤ rank ∧ rank < M 0 0) ↔ r ≠ -1 := by
  constructor
  · rintro ⟨h0, h1⟩ q
    obtain ⟨j, a, -, c⟩ := rk_ex (P := fun _ => True) (s_ord M) (n := (M 0 0).toNat) h0 (by rw [d_tr]; omega)
    rcases hr with ⟨-, hn⟩ | ⟨k, e, -⟩
    · exact hn j a (show o_rkS M j = rank by rw [s_rkP]; exact c)
    · omega
  · intro q
    rcases hr with ⟨e, -⟩ | ⟨k, e, hk, hk2, -⟩
    · exact absurd e q
    · have a := rk_top (P := fun _ => True) (s_ord M) (n := (M 0 0).toNat) (j := k) hk trivial
      have b := rk_R (P := fun _ => True) (R := s_ah M) (n := (M 0 0).toNat) (j := k)
      rw [d_tr] at a
      rw [← s_rkP] at a b
      have hk2 : o_rkS M k = rank := hk2
      omega
theorem l_at {M : Nat → Nat → Int} {rank r : Int} (hr : o_fst (fun i => 0 < M 5 i ∧ o_rkL M i = rank) (M 0 1).toNat r) : (0 ≤ rank ∧ rank ≤ o_sm (fun i => o_b (0 < M 5 i)) (M 0 1).toNat - 1) ↔ r ≠ -1 := by
  constructor
  · rintro ⟨h0, h1⟩ q
    obtain ⟨j, a, b, c⟩ := rk_ex (P := fun i => 0 < M 5 i) (R := l_ah M) (l_ord M) (n := (M 0 1).toNat) h0 (by omega)
    rcases hr with ⟨-, hn⟩ | ⟨k, e, -⟩
    · exact hn j a ⟨b, c⟩
    · omega
  · intro q
    rcases hr with ⟨e, -⟩ | ⟨k, e, hk, hk2, -⟩
    · exact absurd e q
    · have a := rk_top (P := fun i => 0 < M 5 i) (R := l_ah M) (l_ord M) (n := (M 0 1).toNat) (j := k) hk hk2.1
      have b := rk_R (P := fun i => 0 < M 5 i) (R := l_ah M) (n := (M 0 1).toNat) (j := k)
      have e : o_rkL M k = o_sm (fun i => o_b (0 < M 5 i ∧ l_ah M i k)) (M 0 1).toNat := rfl
      have hk3 := hk2.2
      omega
set_option maxRecDepth 100000 in
set_option maxHeartbeats 4000000 in
/-- shipByFines(rank) -/
theorem ct_X12_shipByFines {l : Launch} (hl : l.stackTraces = false) (d : Nat) (g : Nat → Nat → Int) (M : Nat → Nat → Int) (hsr : o_sr (g 193) M) (hwk : o_wk M) (rank : Int) (hrank : o_R rank) (r : Int) (hr9 : o_fst (fun i => o_rkS M i = rank) (M 0 0).toNat r) : o_Ct l yX12_shipByFines wX12_shipByFines (d + 3) o_no [.ref 192, .int (o_I rank)] o_N (o_mem g) 0 0 (r_q (0 ≤ rank ∧ rank < M 0 0) r g) := by
  refine o_Ct.ofV hl mX12_shipByFines (by decide +kernel) rfl rfl rfl (Nat.le_of_ble_eq_true rfl) ?_
  obtain ⟨⟨hr0, hr1, hr2, hr3, hr4, hr5, hr6⟩, hrs, hrl, hrq⟩ := id hsr
  obtain ⟨hws, hwl, hwq, hwo, hwle, hwrq, hwrd⟩ := id hwk
  obtain ⟨hw1, hw2, hw3⟩ := id hws
  obtain ⟨hw4, hw5, hw6, hw7, hw8⟩ := id hwl
  obtain ⟨hw9, hw10, hw11⟩ := id hwq
  obtain ⟨rank1, rank2⟩ := id hrank
  have hps : ∀ i : Nat, (i : Int) < M 0 0 → (o_rkS M i = rank ↔ r = i) := by
    intro i hi
    rcases hr9 with ⟨rfl, h⟩ | ⟨j, rfl, hj, hj2, hj3⟩
    · exact ⟨fun q => absurd q (h i (by omega)), fun q => by omega⟩
    · exact ⟨fun q => by have := s_rk_inj (M := M) hi (by omega) (q.trans (Eq.symm hj2)); omega, fun q => (show j = i by omega) ▸ hj2⟩
  have hrR : -1 ≤ r ∧ r < M 0 0 := by rcases hr9 with ⟨rfl, -⟩ | ⟨j, rfl, hj, -⟩ <;> omega
  have key0 : ¬ (0 ≤ rank ∧ rank < M 0 0) → ∀ g_8, g_8 = o_e g 192 7 (1 - o_b (0 ≤ rank ∧ rank < M 0 0)) → o_V l mX12_shipByFines (d + 3) o_no (r_q (0 ≤ rank ∧ rank < M 0 0) r g) 15 [(0, .ref 192), (1, .int (o_I rank)), (2, .int (o_I 0)), (3, .int (o_I 0)), (4, .int (o_I 0))] [] o_N (o_mem g_8) 0 0 := fun hp g_8 q_8 => by
    have h8 := sr_n hsr q_8
    have hr08 : g_8 193 0 = M 0 0 := h8.1.1
    refine o_iload dX12_shipByFines_15 rfl ?_
    refine o_aload_n dX12_shipByFines_17 rfl ?_
    refine o_gf dX12_shipByFines_18 fl_X12_9 rfl (by decide) rfl ?_
    refine o_iconst dX12_shipByFines_21 ?_
    refine o_ialdn (j := 0) dX12_shipByFines_22 (by decide) rfl (by decide) (by first | rfl | omega) (by omega) ?_
    refine o_icmp_ge (tgt := 143) dX12_shipByFines_23 (by decide) ⟨by omega, by omega⟩ ⟨by omega, by omega⟩ (fun c_23 => ?_) (fun c_23 => ?_)
    · skip
      refine o_iload_n dX12_shipByFines_143 rfl ?_
      refine o_ret1 dX12_shipByFines_144 trivial ?_
      exact r_qN hp q_8
    · skip
      refine o_iload_n dX12_shipByFines_26 rfl ?_
      refine o_if_eq (tgt := 143) dX12_shipByFines_27 (by decide) ⟨by omega, by omega⟩ (fun _ => ?_) (fun c => absurd rfl c)
      refine o_iload_n dX12_shipByFines_143 rfl ?_
      refine o_ret1 dX12_shipByFines_144 trivial ?_
      exact r_qN hp q_8
  have key : (0 ≤ rank ∧ rank < M 0 0) → ∀ g_8, g_8 = o_e g 192 7 (1 - o_b (0 ≤ rank ∧ rank < M 0 0)) → _ := fun hp g_8 q_8 => by
   have h8 := sr_n hsr q_8
   have hr08 : g_8 193 0 = M 0 0 := h8.1.1
   exact o_lp (fun i => o_V l mX12_shipByFines (d + 3) o_no (r_q (0 ≤ rank ∧ rank < M 0 0) r g) 15 [(0, .ref 192), (1, .int (o_I rank)), (2, .int (o_I (if r ≠ -1 ∧ r < ((i : Nat) : Int) then r else 0))), (3, .int (o_I 1)), (4, .int (o_I ((i : Nat) : Int)))] [] o_N (o_mem g_8) 0 0) (M 0 0).toNat (fun i hi ih => by
    have keyn := fun (hi9 : (i : Int) < M 0 0) => o_lp (fun k => o_V l mX12_shipByFines (d + 3) o_no (r_q (0 ≤ rank ∧ rank < M 0 0) r g) 36 [(0, .ref 192), (1, .int (o_I rank)), (2, .int (o_I (if r ≠ -1 ∧ r < ((i : Nat) : Int) then r else 0))), (3, .int (o_I 1)), (4, .int (o_I ((i : Nat) : Int))), (5, .int (o_I (o_sm (fun x => o_b (s_ah M x i)) k))), (6, .int (o_I ((k : Nat) : Int)))] [] o_N (o_mem g_8) 0 0) (M 0 0).toNat (fun k hk ihn => by
      refine o_iload dX12_shipByFines_36 rfl ?_
      refine o_aload_n dX12_shipByFines_38 rfl ?_
      refine o_gf dX12_shipByFines_39 fl_X12_9 rfl (by decide) rfl ?_
      refine o_iconst dX12_shipByFines_42 ?_
      refine o_ialdn (j := 0) dX12_shipByFines_43 (by decide) rfl (by decide) (by first | rfl | omega) (by omega) ?_
      refine o_icmp_ge (tgt := 124) dX12_shipByFines_44 (by decide) ⟨by omega, by omega⟩ ⟨by omega, by omega⟩ (fun c_44 => ?_) (fun c_44 => ?_)
      · skip
        have hrk := o_sm_b (fun x => s_ah M x i) k
        refine o_iload dX12_shipByFines_124 rfl ?_
        refine o_iload_n dX12_shipByFines_126 rfl ?_
        refine o_icmp_ne (tgt := 135) dX12_shipByFines_127 (by decide) ⟨by omega, by omega⟩ ⟨by omega, by omega⟩ (fun c_127 => ?_) (fun c_127 => ?_)
        · skip
          refine o_iload_n dX12_shipByFines_135 rfl ?_
          refine o_istore_n dX12_shipByFines_136 (by decide) ?_
          refine o_iinc dX12_shipByFines_137 rfl (by decide) ?_
          refine o_goto (tgt := 15) dX12_shipByFines_140 (by decide) ?_
          have hri : r ≠ i := fun q => c_127 (by have t := (hps i hi9).mpr q; rw [← t]; rw [show k = (M 0 0).toNat by omega]; rfl)
          exact o_loc [(0, .ref 192), (1, .int (o_I rank)), (2, .int (o_I (if r ≠ -1 ∧ r < (((i + 1) : Nat) : Int) then r else 0))), (3, .int (o_I 1)), (4, .int (o_I (((i + 1) : Nat) : Int)))] (by rw [show (if r ≠ -1 ∧ r < (((i + 1) : Nat) : Int) then r else 0) = (if r ≠ -1 ∧ r < ((i : Nat) : Int) then r else 0) by split <;> split <;> omega]; rfl) (ih (by omega))
        · skip
          refine o_iload dX12_shipByFines_130 rfl ?_
          refine o_goto (tgt := 136) dX12_shipByFines_132 (by decide) ?_
          refine o_istore_n dX12_shipByFines_136 (by decide) ?_
          refine o_iinc dX12_shipByFines_137 rfl (by decide) ?_
          refine o_goto (tgt := 15) dX12_shipByFines_140 (by decide) ?_
          have hri : r = i := (hps i hi9).mp (by rw [show k = (M 0 0).toNat by omega] at c_127; have t : o_rkS M i = o_sm (fun x => o_b (s_ah M x i)) (M 0 0).toNat := rfl; omega)
          exact o_loc [(0, .ref 192), (1, .int (o_I rank)), (2, .int (o_I (if r ≠ -1 ∧ r < (((i + 1) : Nat) : Int) then r else 0))), (3, .int (o_I 1)), (4, .int (o_I (((i + 1) : Nat) : Int)))] (by rw [show (if r ≠ -1 ∧ r < (((i + 1) : Nat) : Int) then r else 0) = (i : Int) by split <;> omega]; rfl) (ih (by omega))
      · skip
        have hk9 : (k : Int) < M 0 0 := by omega
        have hks := h8.2.1 k hk9
        have hkw := hw3 k hk9
        have hk0 : g_8 193 (7 + 3 * k + 0) = M 1 k := hks.1
        have his := h8.2.1 i hi9
        have hiw := hw3 i hi9
        have hi0 : g_8 193 (7 + 3 * i + 0) = M 1 i := his.1
        refine o_aload_n dX12_shipByFines_47 rfl ?_
        refine o_iload dX12_shipByFines_48 rfl ?_
        refine o_iconst dX12_shipByFines_50 ?_
        refine o_cV _ (ct_X12_ofShip hl d g_8 k 1 (by omega) (by decide)) dX12_shipByFines_51 ml_X12_99 yw_X12_ofShip rfl (by decide) (by omega) (by decide) rfl rfl rfl (Nat.le_of_ble_eq_true rfl) ?_
        refine o_aload_n dX12_shipByFines_54 rfl ?_
        refine o_iload dX12_shipByFines_55 rfl ?_
        refine o_iconst dX12_shipByFines_57 ?_
        refine o_cV _ (ct_X12_ofShip hl d g_8 i 1 (by omega) (by decide)) dX12_shipByFines_58 ml_X12_99 yw_X12_ofShip rfl (by decide) (by omega) (by decide) rfl rfl rfl (Nat.le_of_ble_eq_true rfl) ?_
        refine o_isub dX12_shipByFines_61 ?_
        refine o_istore dX12_shipByFines_62 (by decide) ?_
        refine o_aload_n dX12_shipByFines_64 rfl ?_
        refine o_iload dX12_shipByFines_65 rfl ?_
        refine o_iconst dX12_shipByFines_67 ?_
        refine o_cV _ (ct_X12_ofShip hl d g_8 i 0 (by omega) (by decide)) dX12_shipByFines_68 ml_X12_99 yw_X12_ofShip rfl (by decide) (by omega) (by decide) rfl rfl rfl (Nat.le_of_ble_eq_true rfl) ?_
        refine o_aload_n dX12_shipByFines_71 rfl ?_
        refine o_iload dX12_shipByFines_72 rfl ?_
        refine o_iconst dX12_shipByFines_74 ?_
        refine o_cV _ (ct_X12_ofShip hl d g_8 k 0 (by omega) (by decide)) dX12_shipByFines_75 ml_X12_99 yw_X12_ofShip rfl (by decide) (by omega) (by decide) rfl rfl rfl (Nat.le_of_ble_eq_true rfl) ?_
        refine o_isub dX12_shipByFines_78 ?_
        refine o_istore dX12_shipByFines_79 (by decide) ?_
        refine o_iload dX12_shipByFines_81 rfl ?_
        refine o_iload dX12_shipByFines_83 rfl ?_
        refine o_if_gt (tgt := 110) dX12_shipByFines_85 (by decide) ⟨by omega, by omega⟩ (fun c_85 => ?_) (fun c_85 => ?_)
        · skip
          refine o_iconst dX12_shipByFines_110 ?_
          refine o_goto (tgt := 115) dX12_shipByFines_111 (by decide) ?_
          refine o_iadd dX12_shipByFines_115 ?_
          refine o_istore dX12_shipByFines_116 (by decide) ?_
          refine o_iinc dX12_shipByFines_118 rfl (by decide) ?_
          refine o_goto (tgt := 36) dX12_shipByFines_121 (by decide) ?_
          exact o_loc [(0, .ref 192), (1, .int (o_I rank)), (2, .int (o_I (if r ≠ -1 ∧ r < ((i : Nat) : Int) then r else 0))), (3, .int (o_I 1)), (4, .int (o_I ((i : Nat) : Int))), (5, .int (o_I (o_sm (fun x => o_b (s_ah M x i)) (k + 1)))), (6, .int (o_I (((k + 1) : Nat) : Int)))] (by simp only [o_sm]; rw [o_b1 (Or.inl (by omega))]; rfl) (ihn (by omega))
        · skip
          refine o_iload dX12_shipByFines_88 rfl ?_
          refine o_if_ne (tgt := 114) dX12_shipByFines_90 (by decide) ⟨by omega, by omega⟩ (fun c_90 => ?_) (fun c_90 => ?_)
          · skip
            refine o_iconst dX12_shipByFines_114 ?_
            refine o_iadd dX12_shipByFines_115 ?_
            refine o_istore dX12_shipByFines_116 (by decide) ?_
            refine o_iinc dX12_shipByFines_118 rfl (by decide) ?_
            refine o_goto (tgt := 36) dX12_shipByFines_121 (by decide) ?_
            exact o_loc [(0, .ref 192), (1, .int (o_I rank)), (2, .int (o_I (if r ≠ -1 ∧ r < ((i : Nat) : Int) then r else 0))), (3, .int (o_I 1)), (4, .int (o_I ((i : Nat) : Int))), (5, .int (o_I (o_sm (fun x => o_b (s_ah M x i)) (k + 1)))), (6, .int (o_I (((k + 1) : Nat) : Int)))] (by simp only [o_sm]; rw [o_b0 (fun q => by omega)]; rfl) (ihn (by omega))
          · skip
            refine o_iload dX12_shipByFines_93 rfl ?_
            refine o_if_gt (tgt := 110) dX12_shipByFines_95 (by decide) ⟨by omega, by omega⟩ (fun c_95 => ?_) (fun c_95 => ?_)
            · skip
              refine o_iconst dX12_shipByFines_110 ?_
              refine o_goto (tgt := 115) dX12_shipByFines_111 (by decide) ?_
              refine o_iadd dX12_shipByFines_115 ?_
              refine o_istore dX12_shipByFines_116 (by decide) ?_
              refine o_iinc dX12_shipByFines_118 rfl (by decide) ?_
              refine o_goto (tgt := 36) dX12_shipByFines_121 (by decide) ?_
              exact o_loc [(0, .ref 192), (1, .int (o_I rank)), (2, .int (o_I (if r ≠ -1 ∧ r < ((i : Nat) : Int) then r else 0))), (3, .int (o_I 1)), (4, .int (o_I ((i : Nat) : Int))), (5, .int (o_I (o_sm (fun x => o_b (s_ah M x i)) (k + 1)))), (6, .int (o_I (((k + 1) : Nat) : Int)))] (by simp only [o_sm]; rw [o_b1 (Or.inr ⟨by omega, Or.inl (by omega)⟩)]; rfl) (ihn (by omega))
            · skip
              refine o_iload dX12_shipByFines_98 rfl ?_
              refine o_if_ne (tgt := 114) dX12_shipByFines_100 (by decide) ⟨by omega, by omega⟩ (fun c_100 => ?_) (fun c_100 => ?_)
              · skip
                refine o_iconst dX12_shipByFines_114 ?_
                refine o_iadd dX12_shipByFines_115 ?_
                refine o_istore dX12_shipByFines_116 (by decide) ?_
                refine o_iinc dX12_shipByFines_118 rfl (by decide) ?_
                refine o_goto (tgt := 36) dX12_shipByFines_121 (by decide) ?_
                exact o_loc [(0, .ref 192), (1, .int (o_I rank)), (2, .int (o_I (if r ≠ -1 ∧ r < ((i : Nat) : Int) then r else 0))), (3, .int (o_I 1)), (4, .int (o_I ((i : Nat) : Int))), (5, .int (o_I (o_sm (fun x => o_b (s_ah M x i)) (k + 1)))), (6, .int (o_I (((k + 1) : Nat) : Int)))] (by simp only [o_sm]; rw [o_b0 (fun q => by omega)]; rfl) (ihn (by omega))
              · skip
                refine o_iload dX12_shipByFines_103 rfl ?_
                refine o_iload dX12_shipByFines_105 rfl ?_
                refine o_icmp_ge (tgt := 114) dX12_shipByFines_107 (by decide) ⟨by omega, by omega⟩ ⟨by omega, by omega⟩ (fun c_107 => ?_) (fun c_107 => ?_)
                · skip
                  refine o_iconst dX12_shipByFines_114 ?_
                  refine o_iadd dX12_shipByFines_115 ?_
                  refine o_istore dX12_shipByFines_116 (by decide) ?_
                  refine o_iinc dX12_shipByFines_118 rfl (by decide) ?_
                  refine o_goto (tgt := 36) dX12_shipByFines_121 (by decide) ?_
                  exact o_loc [(0, .ref 192), (1, .int (o_I rank)), (2, .int (o_I (if r ≠ -1 ∧ r < ((i : Nat) : Int) then r else 0))), (3, .int (o_I 1)), (4, .int (o_I ((i : Nat) : Int))), (5, .int (o_I (o_sm (fun x => o_b (s_ah M x i)) (k + 1)))), (6, .int (o_I (((k + 1) : Nat) : Int)))] (by simp only [o_sm]; rw [o_b0 (fun q => by omega)]; rfl) (ihn (by omega))
                · skip
                  refine o_iconst dX12_shipByFines_110 ?_
                  refine o_goto (tgt := 115) dX12_shipByFines_111 (by decide) ?_
                  refine o_iadd dX12_shipByFines_115 ?_
                  refine o_istore dX12_shipByFines_116 (by decide) ?_
                  refine o_iinc dX12_shipByFines_118 rfl (by decide) ?_
                  refine o_goto (tgt := 36) dX12_shipByFines_121 (by decide) ?_
                  exact o_loc [(0, .ref 192), (1, .int (o_I rank)), (2, .int (o_I (if r ≠ -1 ∧ r < ((i : Nat) : Int) then r else 0))), (3, .int (o_I 1)), (4, .int (o_I ((i : Nat) : Int))), (5, .int (o_I (o_sm (fun x => o_b (s_ah M x i)) (k + 1)))), (6, .int (o_I (((k + 1) : Nat) : Int)))] (by simp only [o_sm]; rw [o_b1 (Or.inr ⟨by omega, Or.inr ⟨by omega, by omega⟩⟩)]; rfl) (ihn (by omega)))
    refine o_iload dX12_shipByFines_15 rfl ?_
    refine o_aload_n dX12_shipByFines_17 rfl ?_
    refine o_gf dX12_shipByFines_18 fl_X12_9 rfl (by decide) rfl ?_
    refine o_iconst dX12_shipByFines_21 ?_
    refine o_ialdn (j := 0) dX12_shipByFines_22 (by decide) rfl (by decide) (by first | rfl | omega) (by omega) ?_
    refine o_icmp_ge (tgt := 143) dX12_shipByFines_23 (by decide) ⟨by omega, by omega⟩ ⟨by omega, by omega⟩ (fun c_23 => ?_) (fun c_23 => ?_)
    · skip
      refine o_iload_n dX12_shipByFines_143 rfl ?_
      refine o_ret1 dX12_shipByFines_144 trivial ?_
      refine r_qY hp ?_ q_8
      have t := (s_at hw1 hr9).mp hp
      split <;> omega
    · skip
      refine o_iload_n dX12_shipByFines_26 rfl ?_
      refine o_if_eq (tgt := 143) dX12_shipByFines_27 (by decide) ⟨by omega, by omega⟩ (fun c => absurd c (by decide)) (fun _ => ?_)
      refine o_iconst dX12_shipByFines_30 ?_
      refine o_istore dX12_shipByFines_31 (by decide) ?_
      refine o_iconst dX12_shipByFines_33 ?_
      refine o_istore dX12_shipByFines_34 (by decide) ?_
      exact o_loc _ rfl (keyn (by omega) 0 (Nat.zero_le _)))
  refine o_iconst dX12_shipByFines_0 ?_
  refine o_istore_n dX12_shipByFines_1 (by decide) ?_
  refine o_aload_n dX12_shipByFines_2 rfl ?_
  refine o_aload_n dX12_shipByFines_3 rfl ?_
  refine o_iload_n dX12_shipByFines_4 rfl ?_
  refine o_cV _ (ct_X12_isShip hl d g M hsr hwk rank hrank) dX12_shipByFines_5 ml_X12_89 yw_X12_isShip rfl (by decide) (by omega) (by decide) rfl rfl rfl (Nat.le_of_ble_eq_true rfl) ?_
  refine o_cVm _ (ct_X12_isThere hl (d + 1) g (0 ≤ rank ∧ rank < M 0 0)) dX12_shipByFines_8 ml_X12_144 yw_X12_isThere rfl (by decide) (by omega) (by decide) rfl rfl rfl (Nat.le_of_ble_eq_true rfl) (fun g_8 q_8 => ?_)
  refine o_istore_n dX12_shipByFines_11 (by decide) ?_
  refine o_iconst dX12_shipByFines_12 ?_
  refine o_istore dX12_shipByFines_13 (by decide) ?_
  by_cases hp : 0 ≤ rank ∧ rank < M 0 0
  · exact o_loc _ (by rw [o_b1 hp, show (if r ≠ -1 ∧ r < ((0 : Nat) : Int) then r else 0) = 0 by split <;> omega]; rfl) (key hp g_8 q_8 0 (Nat.zero_le _))
  · exact o_loc _ (by rw [o_b0 hp]; rfl) (key0 hp g_8 q_8)
set_option maxRecDepth 100000 in
set_option maxHeartbeats 4000000 in
/-- lampByEnd(rank) -/
theorem ct_X12_lampByEnd {l : Launch} (hl : l.stackTraces = false) (d : Nat) (g : Nat → Nat → Int) (M : Nat → Nat → Int) (hsr : o_sr (g 193) M) (hwk : o_wk M) (rank : Int) (hrank : o_R rank) (r : Int) (hr9 : o_fst (fun i => 0 < M 5 i ∧ o_rkL M i = rank) (M 0 1).toNat r) : o_Ct l yX12_lampByEnd wX12_lampByEnd (d + 4) o_no [.ref 192, .int (o_I rank)] o_N (o_mem g) 0 0 (r_q (0 ≤ rank ∧ rank ≤ o_sm (fun i => o_b (0 < M 5 i)) (M 0 1).toNat - 1) r g) := by
  refine o_Ct.ofV hl mX12_lampByEnd (by decide +kernel) rfl rfl rfl (Nat.le_of_ble_eq_true rfl) ?_
  obtain ⟨⟨hr0, hr1, hr2, hr3, hr4, hr5, hr6⟩, hrs, hrl, hrq⟩ := id hsr
  obtain ⟨hws, hwl, hwq, hwo, hwle, hwrq, hwrd⟩ := id hwk
  obtain ⟨hw1, hw2, hw3⟩ := id hws
  obtain ⟨hw4, hw5, hw6, hw7, hw8⟩ := id hwl
  obtain ⟨hw9, hw10, hw11⟩ := id hwq
  obtain ⟨rank1, rank2⟩ := id hrank
  have hls := o_sm_b (fun i => 0 < M 5 i) (M 0 1).toNat
  have hps : ∀ i : Nat, (i : Int) < M 0 1 → ((0 < M 5 i ∧ o_rkL M i = rank) ↔ r = i) := by
    intro i hi
    rcases hr9 with ⟨rfl, h⟩ | ⟨j, rfl, hj, hj2, hj3⟩
    · exact ⟨fun q => absurd q (h i (by omega)), fun q => by omega⟩
    · exact ⟨fun q => by have := l_rk_inj (M := M) hi (by omega) q.1 hj2.1 (q.2.trans (Eq.symm hj2.2)); omega, fun q => (show j = i by omega) ▸ hj2⟩
  have hrR : -1 ≤ r ∧ r < M 0 1 := by rcases hr9 with ⟨rfl, -⟩ | ⟨j, rfl, hj, -⟩ <;> omega
  have key0 : ¬ (0 ≤ rank ∧ rank ≤ o_sm (fun i => o_b (0 < M 5 i)) (M 0 1).toNat - 1) → ∀ g_14, g_14 = o_e g 192 7 (1 - o_b (0 ≤ rank ∧ rank ≤ o_sm (fun i => o_b (0 < M 5 i)) (M 0 1).toNat - 1)) → o_V l mX12_lampByEnd (d + 4) o_no (r_q (0 ≤ rank ∧ rank ≤ o_sm (fun i => o_b (0 < M 5 i)) (M 0 1).toNat - 1) r g) 21 [(0, .ref 192), (1, .int (o_I rank)), (2, .int (o_I 0)), (3, .int (o_I 0)), (4, .int (o_I 0))] [] o_N (o_mem g_14) 0 0 := fun hp g_14 q_14 => by
    have h8 := sr_n hsr q_14
    have hr08 : g_14 193 1 = M 0 1 := h8.1.2.1
    refine o_iload dX12_lampByEnd_21 rfl ?_
    refine o_aload_n dX12_lampByEnd_23 rfl ?_
    refine o_gf dX12_lampByEnd_24 fl_X12_9 rfl (by decide) rfl ?_
    refine o_iconst dX12_lampByEnd_27 ?_
    refine o_ialdn (j := 1) dX12_lampByEnd_28 (by decide) rfl (by decide) (by first | rfl | omega) (by omega) ?_
    refine o_icmp_ge (tgt := 179) dX12_lampByEnd_29 (by decide) ⟨by omega, by omega⟩ ⟨by omega, by omega⟩ (fun c_29 => ?_) (fun c_29 => ?_)
    · skip
      refine o_iload_n dX12_lampByEnd_179 rfl ?_
      refine o_ret1 dX12_lampByEnd_180 trivial ?_
      exact r_qN hp q_14
    · skip
      refine o_iload_n dX12_lampByEnd_32 rfl ?_
      refine o_if_eq (tgt := 179) dX12_lampByEnd_33 (by decide) ⟨by omega, by omega⟩ (fun _ => ?_) (fun c => absurd rfl c)
      refine o_iload_n dX12_lampByEnd_179 rfl ?_
      refine o_ret1 dX12_lampByEnd_180 trivial ?_
      exact r_qN hp q_14
  have key : (0 ≤ rank ∧ rank ≤ o_sm (fun i => o_b (0 < M 5 i)) (M 0 1).toNat - 1) → ∀ g_14, g_14 = o_e g 192 7 (1 - o_b (0 ≤ rank ∧ rank ≤ o_sm (fun i => o_b (0 < M 5 i)) (M 0 1).toNat - 1)) → _ := fun hp g_14 q_14 => by
   have h8 := sr_n hsr q_14
   have hr08 : g_14 193 1 = M 0 1 := h8.1.2.1
   exact o_lp (fun i => o_V l mX12_lampByEnd (d + 4) o_no (r_q (0 ≤ rank ∧ rank ≤ o_sm (fun i => o_b (0 < M 5 i)) (M 0 1).toNat - 1) r g) 21 [(0, .ref 192), (1, .int (o_I rank)), (2, .int (o_I (if r ≠ -1 ∧ r < ((i : Nat) : Int) then r else 0))), (3, .int (o_I 1)), (4, .int (o_I ((i : Nat) : Int)))] [] o_N (o_mem g_14) 0 0) (M 0 1).toNat (fun i hi ih => by
    have keyn := fun (hi9 : (i : Int) < M 0 1) => o_lp (fun k => o_V l mX12_lampByEnd (d + 4) o_no (r_q (0 ≤ rank ∧ rank ≤ o_sm (fun i => o_b (0 < M 5 i)) (M 0 1).toNat - 1) r g) 42 [(0, .ref 192), (1, .int (o_I rank)), (2, .int (o_I (if r ≠ -1 ∧ r < ((i : Nat) : Int) then r else 0))), (3, .int (o_I 1)), (4, .int (o_I ((i : Nat) : Int))), (5, .int (o_I (o_sm (fun x => o_b (0 < M 5 x ∧ l_ah M x i)) k))), (6, .int (o_I ((k : Nat) : Int)))] [] o_N (o_mem g_14) 0 0) (M 0 1).toNat (fun k hk ihn => by
      refine o_iload dX12_lampByEnd_42 rfl ?_
      refine o_aload_n dX12_lampByEnd_44 rfl ?_
      refine o_gf dX12_lampByEnd_45 fl_X12_9 rfl (by decide) rfl ?_
      refine o_iconst dX12_lampByEnd_48 ?_
      refine o_ialdn (j := 1) dX12_lampByEnd_49 (by decide) rfl (by decide) (by first | rfl | omega) (by omega) ?_
      refine o_icmp_ge (tgt := 151) dX12_lampByEnd_50 (by decide) ⟨by omega, by omega⟩ ⟨by omega, by omega⟩ (fun c_50 => ?_) (fun c_50 => ?_)
      · skip
        have hrk := o_sm_b (fun x => 0 < M 5 x ∧ l_ah M x i) k
        refine o_aload_n dX12_lampByEnd_151 rfl ?_
        refine o_iload dX12_lampByEnd_152 rfl ?_
        refine o_cV _ (ct_X12_isOut hl d g_14 M h8 hwk i hi9) dX12_lampByEnd_154 ml_X12_96 yw_X12_isOut rfl (by decide) (by omega) (by decide) rfl rfl rfl (Nat.le_of_ble_eq_true rfl) ?_
        refine o_ifb_eq (tgt := 171) dX12_lampByEnd_157 (by decide) (fun c_157 => ?_) (fun c_157 => ?_)
        · skip
          refine o_iload_n dX12_lampByEnd_171 rfl ?_
          refine o_istore_n dX12_lampByEnd_172 (by decide) ?_
          refine o_iinc dX12_lampByEnd_173 rfl (by decide) ?_
          refine o_goto (tgt := 21) dX12_lampByEnd_176 (by decide) ?_
          have hri : r ≠ i := fun q => c_157 ((hps i hi9).mpr q).1
          exact o_loc [(0, .ref 192), (1, .int (o_I rank)), (2, .int (o_I (if r ≠ -1 ∧ r < (((i + 1) : Nat) : Int) then r else 0))), (3, .int (o_I 1)), (4, .int (o_I (((i + 1) : Nat) : Int)))] (by rw [show (if r ≠ -1 ∧ r < (((i + 1) : Nat) : Int) then r else 0) = (if r ≠ -1 ∧ r < ((i : Nat) : Int) then r else 0) by split <;> split <;> omega]; rfl) (ih (by omega))
        · skip
          refine o_iload dX12_lampByEnd_160 rfl ?_
          refine o_iload_n dX12_lampByEnd_162 rfl ?_
          refine o_icmp_ne (tgt := 171) dX12_lampByEnd_163 (by decide) ⟨by omega, by omega⟩ ⟨by omega, by omega⟩ (fun c_163 => ?_) (fun c_163 => ?_)
          · skip
            refine o_iload_n dX12_lampByEnd_171 rfl ?_
            refine o_istore_n dX12_lampByEnd_172 (by decide) ?_
            refine o_iinc dX12_lampByEnd_173 rfl (by decide) ?_
            refine o_goto (tgt := 21) dX12_lampByEnd_176 (by decide) ?_
            have hri : r ≠ i := fun q => c_163 (by have t := ((hps i hi9).mpr q).2; rw [← t]; rw [show k = (M 0 1).toNat by omega]; rfl)
            exact o_loc [(0, .ref 192), (1, .int (o_I rank)), (2, .int (o_I (if r ≠ -1 ∧ r < (((i + 1) : Nat) : Int) then r else 0))), (3, .int (o_I 1)), (4, .int (o_I (((i + 1) : Nat) : Int)))] (by rw [show (if r ≠ -1 ∧ r < (((i + 1) : Nat) : Int) then r else 0) = (if r ≠ -1 ∧ r < ((i : Nat) : Int) then r else 0) by split <;> split <;> omega]; rfl) (ih (by omega))
          · skip
            refine o_iload dX12_lampByEnd_166 rfl ?_
            refine o_goto (tgt := 172) dX12_lampByEnd_168 (by decide) ?_
            refine o_istore_n dX12_lampByEnd_172 (by decide) ?_
            refine o_iinc dX12_lampByEnd_173 rfl (by decide) ?_
            refine o_goto (tgt := 21) dX12_lampByEnd_176 (by decide) ?_
            have hri : r = i := (hps i hi9).mp ⟨c_157, by rw [show k = (M 0 1).toNat by omega] at c_163; have t : o_rkL M i = o_sm (fun x => o_b (0 < M 5 x ∧ l_ah M x i)) (M 0 1).toNat := rfl; omega⟩
            exact o_loc [(0, .ref 192), (1, .int (o_I rank)), (2, .int (o_I (if r ≠ -1 ∧ r < (((i + 1) : Nat) : Int) then r else 0))), (3, .int (o_I 1)), (4, .int (o_I (((i + 1) : Nat) : Int)))] (by rw [show (if r ≠ -1 ∧ r < (((i + 1) : Nat) : Int) then r else 0) = (i : Int) by split <;> omega]; rfl) (ih (by omega))
      · skip
        have hk9 : (k : Int) < M 0 1 := by omega
        have hks := h8.2.2.1 k hk9
        have hkw := hw8 k hk9
        have hk0 : g_14 193 (25 + 5 * k + 0) = M 4 k := hks.1
        have his := h8.2.2.1 i hi9
        have hiw := hw8 i hi9
        have hi0 : g_14 193 (25 + 5 * i + 0) = M 4 i := his.1
        refine o_aload_n dX12_lampByEnd_53 rfl ?_
        refine o_iload dX12_lampByEnd_54 rfl ?_
        refine o_iconst dX12_lampByEnd_56 ?_
        refine o_cV _ (ct_X12_of hl (d + 1) g_14 i 2 (by omega) (by decide)) dX12_lampByEnd_57 ml_X12_58 yw_X12_of rfl (by decide) (by omega) (by decide) rfl rfl rfl (Nat.le_of_ble_eq_true rfl) ?_
        refine o_aload_n dX12_lampByEnd_60 rfl ?_
        refine o_iload dX12_lampByEnd_61 rfl ?_
        refine o_iconst dX12_lampByEnd_63 ?_
        refine o_cV _ (ct_X12_of hl (d + 1) g_14 k 2 (by omega) (by decide)) dX12_lampByEnd_64 ml_X12_58 yw_X12_of rfl (by decide) (by omega) (by decide) rfl rfl rfl (Nat.le_of_ble_eq_true rfl) ?_
        refine o_isub dX12_lampByEnd_67 ?_
        refine o_istore dX12_lampByEnd_68 (by decide) ?_
        refine o_aload_n dX12_lampByEnd_70 rfl ?_
        refine o_iload dX12_lampByEnd_71 rfl ?_
        refine o_iconst dX12_lampByEnd_73 ?_
        refine o_cV _ (ct_X12_of hl (d + 1) g_14 k 0 (by omega) (by decide)) dX12_lampByEnd_74 ml_X12_58 yw_X12_of rfl (by decide) (by omega) (by decide) rfl rfl rfl (Nat.le_of_ble_eq_true rfl) ?_
        refine o_aload_n dX12_lampByEnd_77 rfl ?_
        refine o_iload dX12_lampByEnd_78 rfl ?_
        refine o_iconst dX12_lampByEnd_80 ?_
        refine o_cV _ (ct_X12_of hl (d + 1) g_14 i 0 (by omega) (by decide)) dX12_lampByEnd_81 ml_X12_58 yw_X12_of rfl (by decide) (by omega) (by decide) rfl rfl rfl (Nat.le_of_ble_eq_true rfl) ?_
        refine o_isub dX12_lampByEnd_84 ?_
        refine o_istore dX12_lampByEnd_85 (by decide) ?_
        refine o_iload dX12_lampByEnd_87 rfl ?_
        refine o_if_gt (tgt := 114) dX12_lampByEnd_89 (by decide) ⟨by omega, by omega⟩ (fun c_89 => ?_) (fun c_89 => ?_)
        · skip
          refine o_iconst dX12_lampByEnd_114 ?_
          refine o_goto (tgt := 119) dX12_lampByEnd_115 (by decide) ?_
          refine o_istore dX12_lampByEnd_119 (by decide) ?_
          refine o_iload dX12_lampByEnd_121 rfl ?_
          refine o_aload_n dX12_lampByEnd_123 rfl ?_
          refine o_iload dX12_lampByEnd_124 rfl ?_
          refine o_cV _ (ct_X12_isOut hl d g_14 M h8 hwk k hk9) dX12_lampByEnd_126 ml_X12_96 yw_X12_isOut rfl (by decide) (by omega) (by decide) rfl rfl rfl (Nat.le_of_ble_eq_true rfl) ?_
          refine o_ifb_eq (tgt := 141) dX12_lampByEnd_129 (by decide) (fun c_129 => ?_) (fun c_129 => ?_)
          · skip
            refine o_iconst dX12_lampByEnd_141 ?_
            refine o_iadd dX12_lampByEnd_142 ?_
            refine o_istore dX12_lampByEnd_143 (by decide) ?_
            refine o_iinc dX12_lampByEnd_145 rfl (by decide) ?_
            refine o_goto (tgt := 42) dX12_lampByEnd_148 (by decide) ?_
            exact o_loc [(0, .ref 192), (1, .int (o_I rank)), (2, .int (o_I (if r ≠ -1 ∧ r < ((i : Nat) : Int) then r else 0))), (3, .int (o_I 1)), (4, .int (o_I ((i : Nat) : Int))), (5, .int (o_I (o_sm (fun x => o_b (0 < M 5 x ∧ l_ah M x i)) (k + 1)))), (6, .int (o_I (((k + 1) : Nat) : Int)))] (by simp only [o_sm]; rw [o_b0 (fun q => c_129 q.1)]; rfl) (ihn (by omega))
          · skip
            refine o_iload dX12_lampByEnd_132 rfl ?_
            refine o_if_eq (tgt := 141) dX12_lampByEnd_134 (by decide) ⟨by omega, by omega⟩ (fun c => absurd c (by decide)) (fun _ => ?_)
            refine o_iconst dX12_lampByEnd_137 ?_
            refine o_goto (tgt := 142) dX12_lampByEnd_138 (by decide) ?_
            refine o_iadd dX12_lampByEnd_142 ?_
            refine o_istore dX12_lampByEnd_143 (by decide) ?_
            refine o_iinc dX12_lampByEnd_145 rfl (by decide) ?_
            refine o_goto (tgt := 42) dX12_lampByEnd_148 (by decide) ?_
            exact o_loc [(0, .ref 192), (1, .int (o_I rank)), (2, .int (o_I (if r ≠ -1 ∧ r < ((i : Nat) : Int) then r else 0))), (3, .int (o_I 1)), (4, .int (o_I ((i : Nat) : Int))), (5, .int (o_I (o_sm (fun x => o_b (0 < M 5 x ∧ l_ah M x i)) (k + 1)))), (6, .int (o_I (((k + 1) : Nat) : Int)))] (by simp only [o_sm]; rw [o_b1 (⟨c_129, Or.inl (by omega)⟩)]; rfl) (ihn (by omega))
        · skip
          refine o_iload dX12_lampByEnd_92 rfl ?_
          refine o_if_ne (tgt := 118) dX12_lampByEnd_94 (by decide) ⟨by omega, by omega⟩ (fun c_94 => ?_) (fun c_94 => ?_)
          · skip
            refine o_iconst dX12_lampByEnd_118 ?_
            refine o_istore dX12_lampByEnd_119 (by decide) ?_
            refine o_iload dX12_lampByEnd_121 rfl ?_
            refine o_aload_n dX12_lampByEnd_123 rfl ?_
            refine o_iload dX12_lampByEnd_124 rfl ?_
            refine o_cV _ (ct_X12_isOut hl d g_14 M h8 hwk k hk9) dX12_lampByEnd_126 ml_X12_96 yw_X12_isOut rfl (by decide) (by omega) (by decide) rfl rfl rfl (Nat.le_of_ble_eq_true rfl) ?_
            refine o_ifb_eq (tgt := 141) dX12_lampByEnd_129 (by decide) (fun c_129 => ?_) (fun c_129 => ?_)
            · skip
              refine o_iconst dX12_lampByEnd_141 ?_
              refine o_iadd dX12_lampByEnd_142 ?_
              refine o_istore dX12_lampByEnd_143 (by decide) ?_
              refine o_iinc dX12_lampByEnd_145 rfl (by decide) ?_
              refine o_goto (tgt := 42) dX12_lampByEnd_148 (by decide) ?_
              exact o_loc [(0, .ref 192), (1, .int (o_I rank)), (2, .int (o_I (if r ≠ -1 ∧ r < ((i : Nat) : Int) then r else 0))), (3, .int (o_I 1)), (4, .int (o_I ((i : Nat) : Int))), (5, .int (o_I (o_sm (fun x => o_b (0 < M 5 x ∧ l_ah M x i)) (k + 1)))), (6, .int (o_I (((k + 1) : Nat) : Int)))] (by simp only [o_sm]; rw [o_b0 (fun q => c_129 q.1)]; rfl) (ihn (by omega))
            · skip
              refine o_iload dX12_lampByEnd_132 rfl ?_
              refine o_if_eq (tgt := 141) dX12_lampByEnd_134 (by decide) ⟨by omega, by omega⟩ (fun _ => ?_) (fun c => absurd rfl c)
              refine o_iconst dX12_lampByEnd_141 ?_
              refine o_iadd dX12_lampByEnd_142 ?_
              refine o_istore dX12_lampByEnd_143 (by decide) ?_
              refine o_iinc dX12_lampByEnd_145 rfl (by decide) ?_
              refine o_goto (tgt := 42) dX12_lampByEnd_148 (by decide) ?_
              exact o_loc [(0, .ref 192), (1, .int (o_I rank)), (2, .int (o_I (if r ≠ -1 ∧ r < ((i : Nat) : Int) then r else 0))), (3, .int (o_I 1)), (4, .int (o_I ((i : Nat) : Int))), (5, .int (o_I (o_sm (fun x => o_b (0 < M 5 x ∧ l_ah M x i)) (k + 1)))), (6, .int (o_I (((k + 1) : Nat) : Int)))] (by simp only [o_sm]; rw [o_b0 (fun q => by have := q.2; omega)]; rfl) (ihn (by omega))
          · skip
            refine o_iload dX12_lampByEnd_97 rfl ?_
            refine o_if_gt (tgt := 114) dX12_lampByEnd_99 (by decide) ⟨by omega, by omega⟩ (fun c_99 => ?_) (fun c_99 => ?_)
            · skip
              refine o_iconst dX12_lampByEnd_114 ?_
              refine o_goto (tgt := 119) dX12_lampByEnd_115 (by decide) ?_
              refine o_istore dX12_lampByEnd_119 (by decide) ?_
              refine o_iload dX12_lampByEnd_121 rfl ?_
              refine o_aload_n dX12_lampByEnd_123 rfl ?_
              refine o_iload dX12_lampByEnd_124 rfl ?_
              refine o_cV _ (ct_X12_isOut hl d g_14 M h8 hwk k hk9) dX12_lampByEnd_126 ml_X12_96 yw_X12_isOut rfl (by decide) (by omega) (by decide) rfl rfl rfl (Nat.le_of_ble_eq_true rfl) ?_
              refine o_ifb_eq (tgt := 141) dX12_lampByEnd_129 (by decide) (fun c_129 => ?_) (fun c_129 => ?_)
              · skip
                refine o_iconst dX12_lampByEnd_141 ?_
                refine o_iadd dX12_lampByEnd_142 ?_
                refine o_istore dX12_lampByEnd_143 (by decide) ?_
                refine o_iinc dX12_lampByEnd_145 rfl (by decide) ?_
                refine o_goto (tgt := 42) dX12_lampByEnd_148 (by decide) ?_
                exact o_loc [(0, .ref 192), (1, .int (o_I rank)), (2, .int (o_I (if r ≠ -1 ∧ r < ((i : Nat) : Int) then r else 0))), (3, .int (o_I 1)), (4, .int (o_I ((i : Nat) : Int))), (5, .int (o_I (o_sm (fun x => o_b (0 < M 5 x ∧ l_ah M x i)) (k + 1)))), (6, .int (o_I (((k + 1) : Nat) : Int)))] (by simp only [o_sm]; rw [o_b0 (fun q => c_129 q.1)]; rfl) (ihn (by omega))
              · skip
                refine o_iload dX12_lampByEnd_132 rfl ?_
                refine o_if_eq (tgt := 141) dX12_lampByEnd_134 (by decide) ⟨by omega, by omega⟩ (fun c => absurd c (by decide)) (fun _ => ?_)
                refine o_iconst dX12_lampByEnd_137 ?_
                refine o_goto (tgt := 142) dX12_lampByEnd_138 (by decide) ?_
                refine o_iadd dX12_lampByEnd_142 ?_
                refine o_istore dX12_lampByEnd_143 (by decide) ?_
                refine o_iinc dX12_lampByEnd_145 rfl (by decide) ?_
                refine o_goto (tgt := 42) dX12_lampByEnd_148 (by decide) ?_
                exact o_loc [(0, .ref 192), (1, .int (o_I rank)), (2, .int (o_I (if r ≠ -1 ∧ r < ((i : Nat) : Int) then r else 0))), (3, .int (o_I 1)), (4, .int (o_I ((i : Nat) : Int))), (5, .int (o_I (o_sm (fun x => o_b (0 < M 5 x ∧ l_ah M x i)) (k + 1)))), (6, .int (o_I (((k + 1) : Nat) : Int)))] (by simp only [o_sm]; rw [o_b1 (⟨c_129, Or.inr ⟨by omega, Or.inl (by omega)⟩⟩)]; rfl) (ihn (by omega))
            · skip
              refine o_iload dX12_lampByEnd_102 rfl ?_
              refine o_if_ne (tgt := 118) dX12_lampByEnd_104 (by decide) ⟨by omega, by omega⟩ (fun c_104 => ?_) (fun c_104 => ?_)
              · skip
                refine o_iconst dX12_lampByEnd_118 ?_
                refine o_istore dX12_lampByEnd_119 (by decide) ?_
                refine o_iload dX12_lampByEnd_121 rfl ?_
                refine o_aload_n dX12_lampByEnd_123 rfl ?_
                refine o_iload dX12_lampByEnd_124 rfl ?_
                refine o_cV _ (ct_X12_isOut hl d g_14 M h8 hwk k hk9) dX12_lampByEnd_126 ml_X12_96 yw_X12_isOut rfl (by decide) (by omega) (by decide) rfl rfl rfl (Nat.le_of_ble_eq_true rfl) ?_
                refine o_ifb_eq (tgt := 141) dX12_lampByEnd_129 (by decide) (fun c_129 => ?_) (fun c_129 => ?_)
                · skip
                  refine o_iconst dX12_lampByEnd_141 ?_
                  refine o_iadd dX12_lampByEnd_142 ?_
                  refine o_istore dX12_lampByEnd_143 (by decide) ?_
                  refine o_iinc dX12_lampByEnd_145 rfl (by decide) ?_
                  refine o_goto (tgt := 42) dX12_lampByEnd_148 (by decide) ?_
                  exact o_loc [(0, .ref 192), (1, .int (o_I rank)), (2, .int (o_I (if r ≠ -1 ∧ r < ((i : Nat) : Int) then r else 0))), (3, .int (o_I 1)), (4, .int (o_I ((i : Nat) : Int))), (5, .int (o_I (o_sm (fun x => o_b (0 < M 5 x ∧ l_ah M x i)) (k + 1)))), (6, .int (o_I (((k + 1) : Nat) : Int)))] (by simp only [o_sm]; rw [o_b0 (fun q => c_129 q.1)]; rfl) (ihn (by omega))
                · skip
                  refine o_iload dX12_lampByEnd_132 rfl ?_
                  refine o_if_eq (tgt := 141) dX12_lampByEnd_134 (by decide) ⟨by omega, by omega⟩ (fun _ => ?_) (fun c => absurd rfl c)
                  refine o_iconst dX12_lampByEnd_141 ?_
                  refine o_iadd dX12_lampByEnd_142 ?_
                  refine o_istore dX12_lampByEnd_143 (by decide) ?_
                  refine o_iinc dX12_lampByEnd_145 rfl (by decide) ?_
                  refine o_goto (tgt := 42) dX12_lampByEnd_148 (by decide) ?_
                  exact o_loc [(0, .ref 192), (1, .int (o_I rank)), (2, .int (o_I (if r ≠ -1 ∧ r < ((i : Nat) : Int) then r else 0))), (3, .int (o_I 1)), (4, .int (o_I ((i : Nat) : Int))), (5, .int (o_I (o_sm (fun x => o_b (0 < M 5 x ∧ l_ah M x i)) (k + 1)))), (6, .int (o_I (((k + 1) : Nat) : Int)))] (by simp only [o_sm]; rw [o_b0 (fun q => by have := q.2; omega)]; rfl) (ihn (by omega))
              · skip
                refine o_iload dX12_lampByEnd_107 rfl ?_
                refine o_iload dX12_lampByEnd_109 rfl ?_
                refine o_icmp_ge (tgt := 118) dX12_lampByEnd_111 (by decide) ⟨by omega, by omega⟩ ⟨by omega, by omega⟩ (fun c_111 => ?_) (fun c_111 => ?_)
                · skip
                  refine o_iconst dX12_lampByEnd_118 ?_
                  refine o_istore dX12_lampByEnd_119 (by decide) ?_
                  refine o_iload dX12_lampByEnd_121 rfl ?_
                  refine o_aload_n dX12_lampByEnd_123 rfl ?_
                  refine o_iload dX12_lampByEnd_124 rfl ?_
                  refine o_cV _ (ct_X12_isOut hl d g_14 M h8 hwk k hk9) dX12_lampByEnd_126 ml_X12_96 yw_X12_isOut rfl (by decide) (by omega) (by decide) rfl rfl rfl (Nat.le_of_ble_eq_true rfl) ?_
                  refine o_ifb_eq (tgt := 141) dX12_lampByEnd_129 (by decide) (fun c_129 => ?_) (fun c_129 => ?_)
                  · skip
                    refine o_iconst dX12_lampByEnd_141 ?_
                    refine o_iadd dX12_lampByEnd_142 ?_
                    refine o_istore dX12_lampByEnd_143 (by decide) ?_
                    refine o_iinc dX12_lampByEnd_145 rfl (by decide) ?_
                    refine o_goto (tgt := 42) dX12_lampByEnd_148 (by decide) ?_
                    exact o_loc [(0, .ref 192), (1, .int (o_I rank)), (2, .int (o_I (if r ≠ -1 ∧ r < ((i : Nat) : Int) then r else 0))), (3, .int (o_I 1)), (4, .int (o_I ((i : Nat) : Int))), (5, .int (o_I (o_sm (fun x => o_b (0 < M 5 x ∧ l_ah M x i)) (k + 1)))), (6, .int (o_I (((k + 1) : Nat) : Int)))] (by simp only [o_sm]; rw [o_b0 (fun q => c_129 q.1)]; rfl) (ihn (by omega))
                  · skip
                    refine o_iload dX12_lampByEnd_132 rfl ?_
                    refine o_if_eq (tgt := 141) dX12_lampByEnd_134 (by decide) ⟨by omega, by omega⟩ (fun _ => ?_) (fun c => absurd rfl c)
                    refine o_iconst dX12_lampByEnd_141 ?_
                    refine o_iadd dX12_lampByEnd_142 ?_
                    refine o_istore dX12_lampByEnd_143 (by decide) ?_
                    refine o_iinc dX12_lampByEnd_145 rfl (by decide) ?_
                    refine o_goto (tgt := 42) dX12_lampByEnd_148 (by decide) ?_
                    exact o_loc [(0, .ref 192), (1, .int (o_I rank)), (2, .int (o_I (if r ≠ -1 ∧ r < ((i : Nat) : Int) then r else 0))), (3, .int (o_I 1)), (4, .int (o_I ((i : Nat) : Int))), (5, .int (o_I (o_sm (fun x => o_b (0 < M 5 x ∧ l_ah M x i)) (k + 1)))), (6, .int (o_I (((k + 1) : Nat) : Int)))] (by simp only [o_sm]; rw [o_b0 (fun q => by have := q.2; omega)]; rfl) (ihn (by omega))
                · skip
                  refine o_iconst dX12_lampByEnd_114 ?_
                  refine o_goto (tgt := 119) dX12_lampByEnd_115 (by decide) ?_
                  refine o_istore dX12_lampByEnd_119 (by decide) ?_
                  refine o_iload dX12_lampByEnd_121 rfl ?_
                  refine o_aload_n dX12_lampByEnd_123 rfl ?_
                  refine o_iload dX12_lampByEnd_124 rfl ?_
                  refine o_cV _ (ct_X12_isOut hl d g_14 M h8 hwk k hk9) dX12_lampByEnd_126 ml_X12_96 yw_X12_isOut rfl (by decide) (by omega) (by decide) rfl rfl rfl (Nat.le_of_ble_eq_true rfl) ?_
                  refine o_ifb_eq (tgt := 141) dX12_lampByEnd_129 (by decide) (fun c_129 => ?_) (fun c_129 => ?_)
                  · skip
                    refine o_iconst dX12_lampByEnd_141 ?_
                    refine o_iadd dX12_lampByEnd_142 ?_
                    refine o_istore dX12_lampByEnd_143 (by decide) ?_
                    refine o_iinc dX12_lampByEnd_145 rfl (by decide) ?_
                    refine o_goto (tgt := 42) dX12_lampByEnd_148 (by decide) ?_
                    exact o_loc [(0, .ref 192), (1, .int (o_I rank)), (2, .int (o_I (if r ≠ -1 ∧ r < ((i : Nat) : Int) then r else 0))), (3, .int (o_I 1)), (4, .int (o_I ((i : Nat) : Int))), (5, .int (o_I (o_sm (fun x => o_b (0 < M 5 x ∧ l_ah M x i)) (k + 1)))), (6, .int (o_I (((k + 1) : Nat) : Int)))] (by simp only [o_sm]; rw [o_b0 (fun q => c_129 q.1)]; rfl) (ihn (by omega))
                  · skip
                    refine o_iload dX12_lampByEnd_132 rfl ?_
                    refine o_if_eq (tgt := 141) dX12_lampByEnd_134 (by decide) ⟨by omega, by omega⟩ (fun c => absurd c (by decide)) (fun _ => ?_)
                    refine o_iconst dX12_lampByEnd_137 ?_
                    refine o_goto (tgt := 142) dX12_lampByEnd_138 (by decide) ?_
                    refine o_iadd dX12_lampByEnd_142 ?_
                    refine o_istore dX12_lampByEnd_143 (by decide) ?_
                    refine o_iinc dX12_lampByEnd_145 rfl (by decide) ?_
                    refine o_goto (tgt := 42) dX12_lampByEnd_148 (by decide) ?_
                    exact o_loc [(0, .ref 192), (1, .int (o_I rank)), (2, .int (o_I (if r ≠ -1 ∧ r < ((i : Nat) : Int) then r else 0))), (3, .int (o_I 1)), (4, .int (o_I ((i : Nat) : Int))), (5, .int (o_I (o_sm (fun x => o_b (0 < M 5 x ∧ l_ah M x i)) (k + 1)))), (6, .int (o_I (((k + 1) : Nat) : Int)))] (by simp only [o_sm]; rw [o_b1 (⟨c_129, Or.inr ⟨by omega, Or.inr ⟨by omega, by omega⟩⟩⟩)]; rfl) (ihn (by omega)))
    refine o_iload dX12_lampByEnd_21 rfl ?_
    refine o_aload_n dX12_lampByEnd_23 rfl ?_
    refine o_gf dX12_lampByEnd_24 fl_X12_9 rfl (by decide) rfl ?_
    refine o_iconst dX12_lampByEnd_27 ?_
    refine o_ialdn (j := 1) dX12_lampByEnd_28 (by decide) rfl (by decide) (by first | rfl | omega) (by omega) ?_
    refine o_icmp_ge (tgt := 179) dX12_lampByEnd_29 (by decide) ⟨by omega, by omega⟩ ⟨by omega, by omega⟩ (fun c_29 => ?_) (fun c_29 => ?_)
    · skip
      refine o_iload_n dX12_lampByEnd_179 rfl ?_
      refine o_ret1 dX12_lampByEnd_180 trivial ?_
      refine r_qY hp ?_ q_14
      have t := (l_at hr9).mp hp
      split <;> omega
    · skip
      refine o_iload_n dX12_lampByEnd_32 rfl ?_
      refine o_if_eq (tgt := 179) dX12_lampByEnd_33 (by decide) ⟨by omega, by omega⟩ (fun c => absurd c (by decide)) (fun _ => ?_)
      refine o_iconst dX12_lampByEnd_36 ?_
      refine o_istore dX12_lampByEnd_37 (by decide) ?_
      refine o_iconst dX12_lampByEnd_39 ?_
      refine o_istore dX12_lampByEnd_40 (by decide) ?_
      exact o_loc _ rfl (keyn (by omega) 0 (Nat.zero_le _)))
  refine o_iconst dX12_lampByEnd_0 ?_
  refine o_istore_n dX12_lampByEnd_1 (by decide) ?_
  refine o_aload_n dX12_lampByEnd_2 rfl ?_
  refine o_iload_n dX12_lampByEnd_3 rfl ?_
  refine o_iconst dX12_lampByEnd_4 ?_
  refine o_aload_n dX12_lampByEnd_5 rfl ?_
  refine o_cV _ (ct_X12_leased hl d g M hsr hwk) dX12_lampByEnd_6 ml_X12_151 yw_X12_leased rfl (by decide) (by omega) (by decide) rfl rfl rfl (Nat.le_of_ble_eq_true rfl) ?_
  refine o_iconst dX12_lampByEnd_9 ?_
  refine o_isub dX12_lampByEnd_10 ?_
  refine o_cS _ (ct_X12_in hl (d + 2) g rank hrank 0 ⟨by omega, by omega⟩ (o_sm (fun i => o_b (0 < M 5 i)) (M 0 1).toNat - 1) ⟨by omega, by omega⟩) dX12_lampByEnd_11 ml_X12_54 ys_X12_in rfl (by decide) (by omega) rfl (Nat.le_of_ble_eq_true rfl) ?_
  refine o_cVm _ (ct_X12_isThere hl (d + 2) g (0 ≤ rank ∧ rank ≤ o_sm (fun i => o_b (0 < M 5 i)) (M 0 1).toNat - 1)) dX12_lampByEnd_14 ml_X12_144 yw_X12_isThere rfl (by decide) (by omega) (by decide) rfl rfl rfl (Nat.le_of_ble_eq_true rfl) (fun g_14 q_14 => ?_)
  refine o_istore_n dX12_lampByEnd_17 (by decide) ?_
  refine o_iconst dX12_lampByEnd_18 ?_
  refine o_istore dX12_lampByEnd_19 (by decide) ?_
  by_cases hp : 0 ≤ rank ∧ rank ≤ o_sm (fun i => o_b (0 < M 5 i)) (M 0 1).toNat - 1
  · exact o_loc _ (by rw [o_b1 hp, show (if r ≠ -1 ∧ r < ((0 : Nat) : Int) then r else 0) = 0 by split <;> omega]; rfl) (key hp g_14 q_14 0 (Nat.zero_le _))
  · exact o_loc _ (by rw [o_b0 hp]; rfl) (key0 hp g_14 q_14)
