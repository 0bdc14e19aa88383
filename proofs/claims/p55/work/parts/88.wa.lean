/-! the law's checks -/
set_option maxRecDepth 100000 in
set_option maxHeartbeats 4000000 in
/-- brightBy -/
theorem ct_L_brightBy {l : Launch} (hl : l.stackTraces = false) (d : Nat) (g M : Nat → Nat → Int) (P : List (Nat → Nat → Int)) (S : Option (Nat → Nat → Int)) (T : Nat → Nat → Int) (hx : o_xd g M P S T) (hwf : o_wf M) : o_Ct l yL_brightBy wL_brightBy (d + 10) o_no [.ref 0] o_N (o_mem g) 50 300 (y_x (.int (o_I (n_bc M (M 0 1).toNat))) M P S T) := by
  refine o_Ct.ofV hl mL_brightBy (by decide +kernel) rfl rfl rfl (Nat.le_of_ble_eq_true rfl) ?_
  obtain ⟨⟨hws, hwl, hwq, hwo, hwle, hwrq, hwrd⟩, hwh, hwc, hwe⟩ := id hwf
  obtain ⟨b0, b1, bs⟩ := id hws
  obtain ⟨b2, b3, b4, b5, bl⟩ := id hwl
  obtain ⟨b6, b7, bq⟩ := id hwq
  obtain ⟨b8, b9⟩ := id hwo
  refine o_aload_n dL_brightBy_0 rfl ?_
  refine y_v _ (cv_oil hl d g M P S T hx hwf) dL_brightBy_1 ml_L_168 yw_X11_oil rfl (by decide) (by omega) (by omega) (by omega) (by decide) rfl rfl rfl (Nat.le_of_ble_eq_true rfl) (fun g hx => ?_)
  refine o_istore_n dL_brightBy_4 (by decide) ?_
  refine o_iconst dL_brightBy_5 ?_
  refine o_istore_n dL_brightBy_6 (by decide) ?_
  refine o_iconst dL_brightBy_7 ?_
  refine o_istore_n dL_brightBy_8 (by decide) ?_
  have key_9 := o_lp (fun j => ∀ (o : Int), (o = n_bo M j) → ∀ (m : Int), (m = n_bc M j) → ∀ g mc ms, o_xd g M P S T → 4 * ((M 0 1).toNat - j) + 4 ≤ mc → 6 * (4 * ((M 0 1).toNat - j) + 4) ≤ ms → o_V l mL_brightBy (d + 10) o_no (y_x (.int (o_I (n_bc M (M 0 1).toNat))) M P S T) 9 [(0, .ref 0), (1, .int (o_I (o))), (2, .int (o_I (m))), (3, .int (o_I ((j : Int))))] [] o_N (o_mem g) mc ms) (M 0 1).toNat (fun j hj ih_9 o ho m hm g mc ms hx h1 h2 => by
    have r1 := n_bo_R hwl hwo j (by omega)
    have r2 := n_bc_R M j
    refine o_iload_n dL_brightBy_9 rfl ?_
    refine o_aload_n dL_brightBy_10 rfl ?_
    refine y_v _ (cv_lampCount hl d g M P S T hx hwf) dL_brightBy_11 ml_L_171 yw_X11_lampCount rfl (by decide) (by omega) (by omega) (by omega) (by decide) rfl rfl rfl (Nat.le_of_ble_eq_true rfl) (fun g hx => ?_)
    refine o_icmp_ge (tgt := 77) dL_brightBy_14 (by decide) ⟨by omega, by omega⟩ ⟨by omega, by omega⟩ (fun c_14 => ?_) (fun c_14 => ?_)
    · skip
      refine o_iload_n dL_brightBy_77 rfl ?_
      refine o_ret1 dL_brightBy_78 trivial ?_
      rw [show m = n_bc M (M 0 1).toNat by rw [hm, show j = (M 0 1).toNat by omega]]
      exact ⟨rfl, ⟨g, rfl, hx⟩, rfl⟩
    · skip
      have l1 := bl j (by omega)
      have f5 := o_bcs (0 < M 5 j)
      have f6 := o_bcs (0 < M 5 j ∧ M 4 j ≤ n_bo M j)
      refine o_aload_n dL_brightBy_17 rfl ?_
      refine o_iload_n dL_brightBy_18 rfl ?_
      refine y_v _ (cv_isLeased hl d g M P S T hx hwf j (by omega)) dL_brightBy_19 ml_L_63 yw_X11_isLeased rfl (by decide) (by omega) (by omega) (by omega) (by decide) rfl rfl rfl (Nat.le_of_ble_eq_true rfl) (fun g hx => ?_)
      refine o_if_eq (tgt := 38) dL_brightBy_22 (by decide) ⟨by omega, by omega⟩ (fun c_22 => ?_) (fun c_22 => ?_)
      · skip
        refine o_iconst dL_brightBy_38 ?_
        refine o_istore dL_brightBy_39 (by decide) ?_
        refine o_iload_n dL_brightBy_41 rfl ?_
        refine o_iload dL_brightBy_42 rfl ?_
        refine o_if_eq (tgt := 55) dL_brightBy_44 (by decide) ⟨by omega, by omega⟩ (fun c_44 => ?_) (fun c_44 => absurd (by omega) c_44)
        refine o_iconst dL_brightBy_55 ?_
        refine o_isub dL_brightBy_56 ?_
        refine o_istore_n dL_brightBy_57 (by decide) ?_
        refine o_iload_n dL_brightBy_58 rfl ?_
        refine o_iload dL_brightBy_59 rfl ?_
        refine o_if_eq (tgt := 68) dL_brightBy_61 (by decide) ⟨by omega, by omega⟩ (fun c_61 => ?_) (fun c_61 => absurd (by omega) c_61)
        refine o_iconst dL_brightBy_68 ?_
        refine o_iadd dL_brightBy_69 ?_
        refine o_istore_n dL_brightBy_70 (by decide) ?_
        refine o_iinc dL_brightBy_71 rfl (by decide) ?_
        refine o_goto (tgt := 9) dL_brightBy_74 (by decide) ?_
        exact o_loc [(0, .ref 0), (1, .int (o_I ((o) - (0)))), (2, .int (o_I ((m) + (0)))), (3, .int (o_I (((j + 1 : Nat) : Int))))] rfl (ih_9 (by omega) ((o) - (0)) (by simp only [n_bo]; split <;> omega) ((m) + (0)) (by simp only [n_bc]; omega) g _ _ hx (by omega) (by omega))
      · skip
        refine o_aload_n dL_brightBy_25 rfl ?_
        refine o_iload_n dL_brightBy_26 rfl ?_
        refine y_v _ (cv_level hl d g M P S T hx hwf j (by omega)) dL_brightBy_27 ml_L_60 yw_X11_level rfl (by decide) (by omega) (by omega) (by omega) (by decide) rfl rfl rfl (Nat.le_of_ble_eq_true rfl) (fun g hx => ?_)
        refine o_iload_n dL_brightBy_30 rfl ?_
        refine o_icmp_gt (tgt := 38) dL_brightBy_31 (by decide) ⟨by omega, by omega⟩ ⟨by omega, by omega⟩ (fun c_31 => ?_) (fun c_31 => ?_)
        · skip
          refine o_iconst dL_brightBy_38 ?_
          refine o_istore dL_brightBy_39 (by decide) ?_
          refine o_iload_n dL_brightBy_41 rfl ?_
          refine o_iload dL_brightBy_42 rfl ?_
          refine o_if_eq (tgt := 55) dL_brightBy_44 (by decide) ⟨by omega, by omega⟩ (fun c_44 => ?_) (fun c_44 => absurd (by omega) c_44)
          refine o_iconst dL_brightBy_55 ?_
          refine o_isub dL_brightBy_56 ?_
          refine o_istore_n dL_brightBy_57 (by decide) ?_
          refine o_iload_n dL_brightBy_58 rfl ?_
          refine o_iload dL_brightBy_59 rfl ?_
          refine o_if_eq (tgt := 68) dL_brightBy_61 (by decide) ⟨by omega, by omega⟩ (fun c_61 => ?_) (fun c_61 => absurd (by omega) c_61)
          refine o_iconst dL_brightBy_68 ?_
          refine o_iadd dL_brightBy_69 ?_
          refine o_istore_n dL_brightBy_70 (by decide) ?_
          refine o_iinc dL_brightBy_71 rfl (by decide) ?_
          refine o_goto (tgt := 9) dL_brightBy_74 (by decide) ?_
          exact o_loc [(0, .ref 0), (1, .int (o_I ((o) - (0)))), (2, .int (o_I ((m) + (0)))), (3, .int (o_I (((j + 1 : Nat) : Int))))] rfl (ih_9 (by omega) ((o) - (0)) (by simp only [n_bo]; split <;> omega) ((m) + (0)) (by simp only [n_bc]; omega) g _ _ hx (by omega) (by omega))
        · skip
          refine o_iconst dL_brightBy_34 ?_
          refine o_goto (tgt := 39) dL_brightBy_35 (by decide) ?_
          refine o_istore dL_brightBy_39 (by decide) ?_
          refine o_iload_n dL_brightBy_41 rfl ?_
          refine o_iload dL_brightBy_42 rfl ?_
          refine o_if_eq (tgt := 55) dL_brightBy_44 (by decide) ⟨by omega, by omega⟩ (fun c_44 => absurd c_44 (by omega)) (fun c_44 => ?_)
          refine o_aload_n dL_brightBy_47 rfl ?_
          refine o_iload_n dL_brightBy_48 rfl ?_
          refine y_v _ (cv_level hl d g M P S T hx hwf j (by omega)) dL_brightBy_49 ml_L_60 yw_X11_level rfl (by decide) (by omega) (by omega) (by omega) (by decide) rfl rfl rfl (Nat.le_of_ble_eq_true rfl) (fun g hx => ?_)
          refine o_goto (tgt := 56) dL_brightBy_52 (by decide) ?_
          refine o_isub dL_brightBy_56 ?_
          refine o_istore_n dL_brightBy_57 (by decide) ?_
          refine o_iload_n dL_brightBy_58 rfl ?_
          refine o_iload dL_brightBy_59 rfl ?_
          refine o_if_eq (tgt := 68) dL_brightBy_61 (by decide) ⟨by omega, by omega⟩ (fun c_61 => absurd c_61 (by omega)) (fun c_61 => ?_)
          refine o_iconst dL_brightBy_64 ?_
          refine o_goto (tgt := 69) dL_brightBy_65 (by decide) ?_
          refine o_iadd dL_brightBy_69 ?_
          refine o_istore_n dL_brightBy_70 (by decide) ?_
          refine o_iinc dL_brightBy_71 rfl (by decide) ?_
          refine o_goto (tgt := 9) dL_brightBy_74 (by decide) ?_
          exact o_loc [(0, .ref 0), (1, .int (o_I ((o) - (M 4 j)))), (2, .int (o_I ((m) + (1)))), (3, .int (o_I (((j + 1 : Nat) : Int))))] rfl (ih_9 (by omega) ((o) - (M 4 j)) (by simp only [n_bo]; split <;> omega) ((m) + (1)) (by simp only [n_bc]; omega) g _ _ hx (by omega) (by omega)))
  exact o_loc [(0, .ref 0), (1, .int (o_I (M 0 2))), (2, .int (o_I (0))), (3, .int (o_I (((0 : Nat) : Int))))] rfl (key_9 0 (Nat.zero_le _) (M 0 2) (rfl) (0) (rfl) g _ _ hx (by omega) (by omega))
set_option maxRecDepth 100000 in
set_option maxHeartbeats 4000000 in
/-- isAsked -/
theorem ct_L_isAsked {l : Launch} (hl : l.stackTraces = false) (d : Nat) (g M : Nat → Nat → Int) (P : List (Nat → Nat → Int)) (S : Option (Nat → Nat → Int)) (T : Nat → Nat → Int) (hx : o_xd g M P S T) (hwf : o_wf M) (x : Nat) (hx8 : x < 8) : o_Ct l yL_isAsked wL_isAsked (d + 10) o_no [.ref 0, .int (o_I (x : Int))] o_N (o_mem g) 30 180 (y_x (.int (o_I (o_b (0 ≤ m_pos M x)))) M P S T) := by
  refine o_Ct.ofV hl mL_isAsked (by decide +kernel) rfl rfl rfl (Nat.le_of_ble_eq_true rfl) ?_
  obtain ⟨⟨hws, hwl, hwq, hwo, hwle, hwrq, hwrd⟩, hwh, hwc, hwe⟩ := id hwf
  obtain ⟨b0, b1, bs⟩ := id hws
  obtain ⟨b2, b3, b4, b5, bl⟩ := id hwl
  obtain ⟨b6, b7, bq⟩ := id hwq
  obtain ⟨b8, b9⟩ := id hwo
  refine o_iconst dL_isAsked_0 ?_
  refine o_istore_n dL_isAsked_1 (by decide) ?_
  refine o_iconst dL_isAsked_2 ?_
  refine o_istore_n dL_isAsked_3 (by decide) ?_
  have key_4 := o_lp (fun k => ∀ (q : Int), ((q = 0 ∨ q = 1) ∧ (q = 1 ↔ ∃ i, i < k ∧ M 9 i = (x : Int))) → ∀ g mc ms, o_xd g M P S T → 2 * ((M 0 6).toNat - k) + 2 ≤ mc → 6 * (2 * ((M 0 6).toNat - k) + 2) ≤ ms → o_V l mL_isAsked (d + 10) o_no (y_x (.int (o_I (o_b (0 ≤ m_pos M x)))) M P S T) 4 [(0, .ref 0), (1, .int (o_I ((x : Int)))), (2, .int (o_I (q))), (3, .int (o_I ((k : Int))))] [] o_N (o_mem g) mc ms) (M 0 6).toNat (fun k hk ih_4 q hq g mc ms hx h1 h2 => by
    have r1 := hq.1
    refine o_iload_n dL_isAsked_4 rfl ?_
    refine o_aload_n dL_isAsked_5 rfl ?_
    refine y_v _ (cv_requestCount hl d g M P S T hx hwf) dL_isAsked_6 ml_L_274 yw_X11_requestCount rfl (by decide) (by omega) (by omega) (by omega) (by decide) rfl rfl rfl (Nat.le_of_ble_eq_true rfl) (fun g hx => ?_)
    refine o_icmp_ge (tgt := 37) dL_isAsked_9 (by decide) ⟨by omega, by omega⟩ ⟨by omega, by omega⟩ (fun c_9 => ?_) (fun c_9 => ?_)
    · skip
      refine o_iload_n dL_isAsked_37 rfl ?_
      refine o_ret1 dL_isAsked_38 (by rcases hq.1 with z | z <;> rw [z] <;> first | exact o_rb0 | exact o_rb1) ?_
      rw [show q = o_b (0 ≤ m_pos M x) from (by
        have e : k = (M 0 6).toNat := by omega
        rcases o_bcs (0 ≤ m_pos M x) with ⟨z1, z2⟩ | ⟨z1, z2⟩
        · rw [z1]; exact hq.2.mpr (by rw [e]; exact (n_pos x).mp z2)
        · rw [z1]; exact hq.1.resolve_right (fun z => z2 ((n_pos x).mpr (by rw [← e]; exact hq.2.mp z))))]
      exact ⟨rfl, ⟨g, rfl, hx⟩, rfl⟩
    · skip
      refine o_iload_n dL_isAsked_12 rfl ?_
      refine o_if_ne (tgt := 25) dL_isAsked_13 (by decide) ⟨by omega, by omega⟩ (fun c_13 => ?_) (fun c_13 => ?_)
      · skip
        refine o_iconst dL_isAsked_25 ?_
        refine o_goto (tgt := 30) dL_isAsked_26 (by decide) ?_
        refine o_istore_n dL_isAsked_30 (by decide) ?_
        refine o_iinc dL_isAsked_31 rfl (by decide) ?_
        refine o_goto (tgt := 4) dL_isAsked_34 (by decide) ?_
        exact o_loc [(0, .ref 0), (1, .int (o_I ((x : Int)))), (2, .int (o_I (1))), (3, .int (o_I (((k + 1 : Nat) : Int))))] rfl (ih_4 (by omega) (1) (by first | exact ⟨Or.inr rfl, ⟨fun _ => ⟨k, by omega, by omega⟩, fun _ => rfl⟩⟩ | exact ⟨Or.inr rfl, ⟨fun _ => by obtain ⟨i, hi, hi2⟩ := hq.2.mp (by omega); exact ⟨i, by omega, hi2⟩, fun _ => rfl⟩⟩ | exact ⟨Or.inl rfl, ⟨fun z => absurd z (by decide), fun ⟨i, hi, hi2⟩ => by rcases Nat.lt_succ_iff_lt_or_eq.mp hi with z | z; exact absurd (hq.2.mpr ⟨i, z, hi2⟩) (by omega); subst z; exact absurd hi2 (by omega)⟩⟩) g _ _ hx (by omega) (by omega))
      · skip
        have l1 := bq k (by omega)
        refine o_aload_n dL_isAsked_16 rfl ?_
        refine o_iload_n dL_isAsked_17 rfl ?_
        refine y_v _ (cv_requestedLamp hl d g M P S T hx hwf k (by omega)) dL_isAsked_18 ml_L_91 yw_X11_requestedLamp rfl (by decide) (by omega) (by omega) (by omega) (by decide) rfl rfl rfl (Nat.le_of_ble_eq_true rfl) (fun g hx => ?_)
        refine o_iload_n dL_isAsked_21 rfl ?_
        refine o_icmp_ne (tgt := 29) dL_isAsked_22 (by decide) ⟨by omega, by omega⟩ ⟨by omega, by omega⟩ (fun c_22 => ?_) (fun c_22 => ?_)
        · skip
          refine o_iconst dL_isAsked_29 ?_
          refine o_istore_n dL_isAsked_30 (by decide) ?_
          refine o_iinc dL_isAsked_31 rfl (by decide) ?_
          refine o_goto (tgt := 4) dL_isAsked_34 (by decide) ?_
          exact o_loc [(0, .ref 0), (1, .int (o_I ((x : Int)))), (2, .int (o_I (0))), (3, .int (o_I (((k + 1 : Nat) : Int))))] rfl (ih_4 (by omega) (0) (by first | exact ⟨Or.inr rfl, ⟨fun _ => ⟨k, by omega, by omega⟩, fun _ => rfl⟩⟩ | exact ⟨Or.inr rfl, ⟨fun _ => by obtain ⟨i, hi, hi2⟩ := hq.2.mp (by omega); exact ⟨i, by omega, hi2⟩, fun _ => rfl⟩⟩ | exact ⟨Or.inl rfl, ⟨fun z => absurd z (by decide), fun ⟨i, hi, hi2⟩ => by rcases Nat.lt_succ_iff_lt_or_eq.mp hi with z | z; exact absurd (hq.2.mpr ⟨i, z, hi2⟩) (by omega); subst z; exact absurd hi2 (by omega)⟩⟩) g _ _ hx (by omega) (by omega))
        · skip
          refine o_iconst dL_isAsked_25 ?_
          refine o_goto (tgt := 30) dL_isAsked_26 (by decide) ?_
          refine o_istore_n dL_isAsked_30 (by decide) ?_
          refine o_iinc dL_isAsked_31 rfl (by decide) ?_
          refine o_goto (tgt := 4) dL_isAsked_34 (by decide) ?_
          exact o_loc [(0, .ref 0), (1, .int (o_I ((x : Int)))), (2, .int (o_I (1))), (3, .int (o_I (((k + 1 : Nat) : Int))))] rfl (ih_4 (by omega) (1) (by first | exact ⟨Or.inr rfl, ⟨fun _ => ⟨k, by omega, by omega⟩, fun _ => rfl⟩⟩ | exact ⟨Or.inr rfl, ⟨fun _ => by obtain ⟨i, hi, hi2⟩ := hq.2.mp (by omega); exact ⟨i, by omega, hi2⟩, fun _ => rfl⟩⟩ | exact ⟨Or.inl rfl, ⟨fun z => absurd z (by decide), fun ⟨i, hi, hi2⟩ => by rcases Nat.lt_succ_iff_lt_or_eq.mp hi with z | z; exact absurd (hq.2.mpr ⟨i, z, hi2⟩) (by omega); subst z; exact absurd hi2 (by omega)⟩⟩) g _ _ hx (by omega) (by omega)))
  exact o_loc [(0, .ref 0), (1, .int (o_I ((x : Int)))), (2, .int (o_I (0))), (3, .int (o_I (((0 : Nat) : Int))))] rfl (key_4 0 (Nat.zero_le _) (0) (by exact ⟨Or.inl rfl, ⟨fun z => absurd z (by decide), fun ⟨i, hi, _⟩ => absurd hi (Nat.not_lt_zero i)⟩⟩) g _ _ hx (by omega) (by omega))
set_option maxRecDepth 100000 in
set_option maxHeartbeats 4000000 in
/-- areLeft -/
theorem ct_L_areLeft {l : Launch} (hl : l.stackTraces = false) (d : Nat) (g M : Nat → Nat → Int) (P : List (Nat → Nat → Int)) (S : Option (Nat → Nat → Int)) (T : Nat → Nat → Int) (hx : o_xd g M P S T) (hwf : o_wf M) : o_Ct l yL_areLeft wL_areLeft (d + 10) o_no [.ref 0] o_N (o_mem g) 200 1200 (y_x (.int (o_I 1)) M P S T) := by
  refine o_Ct.ofV hl mL_areLeft (by decide +kernel) rfl rfl rfl (Nat.le_of_ble_eq_true rfl) ?_
  obtain ⟨⟨hws, hwl, hwq, hwo, hwle, hwrq, hwrd⟩, hwh, hwc, hwe⟩ := id hwf
  obtain ⟨b0, b1, bs⟩ := id hws
  obtain ⟨b2, b3, b4, b5, bl⟩ := id hwl
  obtain ⟨b6, b7, bq⟩ := id hwq
  obtain ⟨b8, b9⟩ := id hwo
  have hwk := hwf.1
  have da := d_all_R hwk.2.1
  refine o_aload_n dL_areLeft_0 rfl ?_
  refine y_v _ (cv_consumption hl d g M P S T hx hwf) dL_areLeft_1 ml_L_198 yw_X11_consumption rfl (by decide) (by omega) (by omega) (by omega) (by decide) rfl rfl rfl (Nat.le_of_ble_eq_true rfl) (fun g hx => ?_)
  refine o_istore_n dL_areLeft_4 (by decide) ?_
  refine o_iconst dL_areLeft_5 ?_
  refine o_istore_n dL_areLeft_6 (by decide) ?_
  have key_7 := o_lp (fun s => ∀ g mc ms, o_xd g M P S T → 30 * ((M 0 0).toNat - s) + 5 ≤ mc → 6 * (30 * ((M 0 0).toNat - s) + 5) ≤ ms → o_V l mL_areLeft (d + 10) o_no (y_x (.int (o_I 1)) M P S T) 7 [(0, .ref 0), (1, .int (o_I (d_all M))), (2, .int (o_I ((s : Int))))] [] o_N (o_mem g) mc ms) (M 0 0).toNat (fun s hs ih_7  g mc ms hx h1 h2 => by
    refine o_iload_n dL_areLeft_7 rfl ?_
    refine o_aload_n dL_areLeft_8 rfl ?_
    refine y_v _ (cv_shipCount hl d g M P S T hx hwf) dL_areLeft_9 ml_L_195 yw_X11_shipCount rfl (by decide) (by omega) (by omega) (by omega) (by decide) rfl rfl rfl (Nat.le_of_ble_eq_true rfl) (fun g hx => ?_)
    refine o_icmp_ge (tgt := 157) dL_areLeft_12 (by decide) ⟨by omega, by omega⟩ ⟨by omega, by omega⟩ (fun c_12 => ?_) (fun c_12 => ?_)
    · skip
      refine o_iconst dL_areLeft_157 ?_
      refine o_ret1 dL_areLeft_158 (by first | exact o_rb0 | exact o_rb1) ?_
      exact ⟨rfl, ⟨g, rfl, hx⟩, rfl⟩
    · skip
      refine o_iload_n dL_areLeft_15 rfl ?_
      refine o_if_le (tgt := 157) dL_areLeft_16 (by decide) ⟨by omega, by omega⟩ (fun c_16 => ?_) (fun c_16 => ?_)
      · skip
        refine o_iconst dL_areLeft_157 ?_
        refine o_ret1 dL_areLeft_158 (by first | exact o_rb0 | exact o_rb1) ?_
        exact ⟨rfl, ⟨g, rfl, hx⟩, rfl⟩
      · skip
        have h0 : 0 < d_all M := by omega
        have o1 := n_od hwk (s : Int)
        have r1 := d_r_R0 h0 s
        have J_59 : ∀ (q : Int), ((q = 1 ∧ d_q M s < d_sh M s) ∨ q = 0) → ∀ g mc ms, o_xd g M P S T → 18 + (30 * ((M 0 0).toNat - (s + 1)) + 5) ≤ mc → 6 * (18 + (30 * ((M 0 0).toNat - (s + 1)) + 5)) ≤ ms → o_V l mL_areLeft (d + 10) o_no (y_x (.int (o_I 1)) M P S T) 59 [(0, .ref 0), (1, .int (o_I (d_all M))), (2, .int (o_I ((s : Int)))), (3, .int (o_I (d_r M s))), (4, .int (o_I (q)))] [] o_N (o_mem g) mc ms := (fun q hq g mc ms hx h1 h2 => by
          refine o_iconst dL_areLeft_59 ?_
          refine o_istore dL_areLeft_60 (by decide) ?_
          have key_62 := o_lp (fun t => ∀ g mc ms, o_xd g M P S T → 3 * ((M 0 0).toNat - t) + (30 * ((M 0 0).toNat - (s + 1)) + 5) ≤ mc → 6 * (3 * ((M 0 0).toNat - t) + (30 * ((M 0 0).toNat - (s + 1)) + 5)) ≤ ms → o_V l mL_areLeft (d + 10) o_no (y_x (.int (o_I 1)) M P S T) 62 [(0, .ref 0), (1, .int (o_I (d_all M))), (2, .int (o_I ((s : Int)))), (3, .int (o_I (d_r M s))), (4, .int (o_I (q))), (5, .int (o_I ((t : Int))))] [] o_N (o_mem g) mc ms) (M 0 0).toNat (fun t ht ih_62  g mc ms hx h1 h2 => by
            refine o_iload dL_areLeft_62 rfl ?_
            refine o_aload_n dL_areLeft_64 rfl ?_
            refine y_v _ (cv_shipCount hl d g M P S T hx hwf) dL_areLeft_65 ml_L_195 yw_X11_shipCount rfl (by decide) (by omega) (by omega) (by omega) (by decide) rfl rfl rfl (Nat.le_of_ble_eq_true rfl) (fun g hx => ?_)
            refine o_icmp_ge (tgt := 151) dL_areLeft_68 (by decide) ⟨by omega, by omega⟩ ⟨by omega, by omega⟩ (fun c_68 => ?_) (fun c_68 => ?_)
            · skip
              refine o_iinc dL_areLeft_151 rfl (by decide) ?_
              refine o_goto (tgt := 7) dL_areLeft_154 (by decide) ?_
              exact o_loc [(0, .ref 0), (1, .int (o_I (d_all M))), (2, .int (o_I (((s + 1 : Nat) : Int))))] rfl (ih_7 (by omega)  g _ _ hx (by omega) (by omega))
            · skip
              have o2 := n_od hwk (t : Int)
              have r4 := d_r_R0 h0 t
              refine o_aload_n dL_areLeft_71 rfl ?_
              refine y_v _ (cv_oil hl d g M P S T hx hwf) dL_areLeft_72 ml_L_168 yw_X11_oil rfl (by decide) (by omega) (by omega) (by omega) (by decide) rfl rfl rfl (Nat.le_of_ble_eq_true rfl) (fun g hx => ?_)
              refine o_aload_n dL_areLeft_75 rfl ?_
              refine o_iload dL_areLeft_76 rfl ?_
              refine y_v _ (cv_demand hl d g M P S T hx hwf t (by omega)) dL_areLeft_78 ml_L_54 yw_X11_demand rfl (by decide) (by omega) (by omega) (by omega) (by decide) rfl rfl rfl (Nat.le_of_ble_eq_true rfl) (fun g hx => ?_)
              refine o_imul dL_areLeft_81 ?_
              refine o_iload_n dL_areLeft_82 rfl ?_
              refine o_irem dL_areLeft_83 ⟨by omega, by omega⟩ ⟨by omega, by omega⟩ (by omega) (by omega) ?_
              rw [← d_r_e h0 t]
              refine o_istore dL_areLeft_84 (by decide) ?_
              refine o_iload dL_areLeft_86 rfl ?_
              refine o_iload_n dL_areLeft_88 rfl ?_
              refine o_icmp_gt (tgt := 104) dL_areLeft_89 (by decide) ⟨by omega, by omega⟩ ⟨by omega, by omega⟩ (fun c_89 => ?_) (fun c_89 => ?_)
              · skip
                refine o_iconst dL_areLeft_104 ?_
                refine o_goto (tgt := 109) dL_areLeft_105 (by decide) ?_
                refine o_istore dL_areLeft_109 (by decide) ?_
                refine o_iload dL_areLeft_111 rfl ?_
                refine o_if_eq (tgt := 145) dL_areLeft_113 (by decide) ⟨by omega, by omega⟩ (fun c_113 => ?_) (fun c_113 => ?_)
                · skip
                  refine o_iinc dL_areLeft_145 rfl (by decide) ?_
                  refine o_goto (tgt := 62) dL_areLeft_148 (by decide) ?_
                  exact o_loc [(0, .ref 0), (1, .int (o_I (d_all M))), (2, .int (o_I ((s : Int)))), (3, .int (o_I (d_r M s))), (4, .int (o_I (q))), (5, .int (o_I (((t + 1 : Nat) : Int))))] rfl (ih_62 (by omega)  g _ _ hx (by omega) (by omega))
                · skip
                  refine o_iload dL_areLeft_116 rfl ?_
                  refine o_if_eq (tgt := 145) dL_areLeft_118 (by decide) ⟨by omega, by omega⟩ (fun c_118 => absurd c_118 (by omega)) (fun c_118 => ?_)
                  have nl := n_left (M := M) (a := s) (b := t) (by omega) (by omega) (show d_ah M t s from by first | exact Or.inl (by omega) | exact Or.inr ⟨by omega, by omega⟩)
                  have r5 := d_q_R hwk t
                  have r6 := d_sh_R hwk t
                  refine o_aload_n dL_areLeft_121 rfl ?_
                  refine o_iload dL_areLeft_122 rfl ?_
                  refine y_v _ (cv_share hl d g M P S T hx hwf t (by omega)) dL_areLeft_124 ml_L_85 yw_X11_share rfl (by decide) (by omega) (by omega) (by omega) (by decide) rfl rfl rfl (Nat.le_of_ble_eq_true rfl) (fun g hx => ?_)
                  refine o_aload_n dL_areLeft_127 rfl ?_
                  refine y_v _ (cv_oil hl d g M P S T hx hwf) dL_areLeft_128 ml_L_168 yw_X11_oil rfl (by decide) (by omega) (by omega) (by omega) (by decide) rfl rfl rfl (Nat.le_of_ble_eq_true rfl) (fun g hx => ?_)
                  refine o_aload_n dL_areLeft_131 rfl ?_
                  refine o_iload dL_areLeft_132 rfl ?_
                  refine y_v _ (cv_demand hl d g M P S T hx hwf t (by omega)) dL_areLeft_134 ml_L_54 yw_X11_demand rfl (by decide) (by omega) (by omega) (by omega) (by decide) rfl rfl rfl (Nat.le_of_ble_eq_true rfl) (fun g hx => ?_)
                  refine o_imul dL_areLeft_137 ?_
                  refine o_iload_n dL_areLeft_138 rfl ?_
                  refine o_idiv dL_areLeft_139 ⟨by omega, by omega⟩ ⟨by omega, by omega⟩ (by omega) (by omega) ?_
                  rw [← d_q_e h0 t]
                  refine o_icmp_ne (tgt := 145) dL_areLeft_140 (by decide) ⟨by omega, by omega⟩ ⟨by omega, by omega⟩ (fun c_140 => ?_) (fun c_140 => absurd c_140 (by omega))
                  refine o_iinc dL_areLeft_145 rfl (by decide) ?_
                  refine o_goto (tgt := 62) dL_areLeft_148 (by decide) ?_
                  exact o_loc [(0, .ref 0), (1, .int (o_I (d_all M))), (2, .int (o_I ((s : Int)))), (3, .int (o_I (d_r M s))), (4, .int (o_I (q))), (5, .int (o_I (((t + 1 : Nat) : Int))))] rfl (ih_62 (by omega)  g _ _ hx (by omega) (by omega))
              · skip
                refine o_iload dL_areLeft_92 rfl ?_
                refine o_iload_n dL_areLeft_94 rfl ?_
                refine o_icmp_ne (tgt := 108) dL_areLeft_95 (by decide) ⟨by omega, by omega⟩ ⟨by omega, by omega⟩ (fun c_95 => ?_) (fun c_95 => ?_)
                · skip
                  refine o_iconst dL_areLeft_108 ?_
                  refine o_istore dL_areLeft_109 (by decide) ?_
                  refine o_iload dL_areLeft_111 rfl ?_
                  refine o_if_eq (tgt := 145) dL_areLeft_113 (by decide) ⟨by omega, by omega⟩ (fun c_113 => ?_) (fun c_113 => ?_)
                  · skip
                    refine o_iinc dL_areLeft_145 rfl (by decide) ?_
                    refine o_goto (tgt := 62) dL_areLeft_148 (by decide) ?_
                    exact o_loc [(0, .ref 0), (1, .int (o_I (d_all M))), (2, .int (o_I ((s : Int)))), (3, .int (o_I (d_r M s))), (4, .int (o_I (q))), (5, .int (o_I (((t + 1 : Nat) : Int))))] rfl (ih_62 (by omega)  g _ _ hx (by omega) (by omega))
                  · skip
                    refine o_iload dL_areLeft_116 rfl ?_
                    refine o_if_eq (tgt := 145) dL_areLeft_118 (by decide) ⟨by omega, by omega⟩ (fun c_118 => ?_) (fun c_118 => absurd (by omega) c_118)
                    refine o_iinc dL_areLeft_145 rfl (by decide) ?_
                    refine o_goto (tgt := 62) dL_areLeft_148 (by decide) ?_
                    exact o_loc [(0, .ref 0), (1, .int (o_I (d_all M))), (2, .int (o_I ((s : Int)))), (3, .int (o_I (d_r M s))), (4, .int (o_I (q))), (5, .int (o_I (((t + 1 : Nat) : Int))))] rfl (ih_62 (by omega)  g _ _ hx (by omega) (by omega))
                · skip
                  refine o_iload dL_areLeft_98 rfl ?_
                  refine o_iload_n dL_areLeft_100 rfl ?_
                  refine o_icmp_ge (tgt := 108) dL_areLeft_101 (by decide) ⟨by omega, by omega⟩ ⟨by omega, by omega⟩ (fun c_101 => ?_) (fun c_101 => ?_)
                  · skip
                    refine o_iconst dL_areLeft_108 ?_
                    refine o_istore dL_areLeft_109 (by decide) ?_
                    refine o_iload dL_areLeft_111 rfl ?_
                    refine o_if_eq (tgt := 145) dL_areLeft_113 (by decide) ⟨by omega, by omega⟩ (fun c_113 => ?_) (fun c_113 => ?_)
                    · skip
                      refine o_iinc dL_areLeft_145 rfl (by decide) ?_
                      refine o_goto (tgt := 62) dL_areLeft_148 (by decide) ?_
                      exact o_loc [(0, .ref 0), (1, .int (o_I (d_all M))), (2, .int (o_I ((s : Int)))), (3, .int (o_I (d_r M s))), (4, .int (o_I (q))), (5, .int (o_I (((t + 1 : Nat) : Int))))] rfl (ih_62 (by omega)  g _ _ hx (by omega) (by omega))
                    · skip
                      refine o_iload dL_areLeft_116 rfl ?_
                      refine o_if_eq (tgt := 145) dL_areLeft_118 (by decide) ⟨by omega, by omega⟩ (fun c_118 => ?_) (fun c_118 => absurd (by omega) c_118)
                      refine o_iinc dL_areLeft_145 rfl (by decide) ?_
                      refine o_goto (tgt := 62) dL_areLeft_148 (by decide) ?_
                      exact o_loc [(0, .ref 0), (1, .int (o_I (d_all M))), (2, .int (o_I ((s : Int)))), (3, .int (o_I (d_r M s))), (4, .int (o_I (q))), (5, .int (o_I (((t + 1 : Nat) : Int))))] rfl (ih_62 (by omega)  g _ _ hx (by omega) (by omega))
                  · skip
                    refine o_iconst dL_areLeft_104 ?_
                    refine o_goto (tgt := 109) dL_areLeft_105 (by decide) ?_
                    refine o_istore dL_areLeft_109 (by decide) ?_
                    refine o_iload dL_areLeft_111 rfl ?_
                    refine o_if_eq (tgt := 145) dL_areLeft_113 (by decide) ⟨by omega, by omega⟩ (fun c_113 => ?_) (fun c_113 => ?_)
                    · skip
                      refine o_iinc dL_areLeft_145 rfl (by decide) ?_
                      refine o_goto (tgt := 62) dL_areLeft_148 (by decide) ?_
                      exact o_loc [(0, .ref 0), (1, .int (o_I (d_all M))), (2, .int (o_I ((s : Int)))), (3, .int (o_I (d_r M s))), (4, .int (o_I (q))), (5, .int (o_I (((t + 1 : Nat) : Int))))] rfl (ih_62 (by omega)  g _ _ hx (by omega) (by omega))
                    · skip
                      refine o_iload dL_areLeft_116 rfl ?_
                      refine o_if_eq (tgt := 145) dL_areLeft_118 (by decide) ⟨by omega, by omega⟩ (fun c_118 => absurd c_118 (by omega)) (fun c_118 => ?_)
                      have nl := n_left (M := M) (a := s) (b := t) (by omega) (by omega) (show d_ah M t s from by first | exact Or.inl (by omega) | exact Or.inr ⟨by omega, by omega⟩)
                      have r5 := d_q_R hwk t
                      have r6 := d_sh_R hwk t
                      refine o_aload_n dL_areLeft_121 rfl ?_
                      refine o_iload dL_areLeft_122 rfl ?_
                      refine y_v _ (cv_share hl d g M P S T hx hwf t (by omega)) dL_areLeft_124 ml_L_85 yw_X11_share rfl (by decide) (by omega) (by omega) (by omega) (by decide) rfl rfl rfl (Nat.le_of_ble_eq_true rfl) (fun g hx => ?_)
                      refine o_aload_n dL_areLeft_127 rfl ?_
                      refine y_v _ (cv_oil hl d g M P S T hx hwf) dL_areLeft_128 ml_L_168 yw_X11_oil rfl (by decide) (by omega) (by omega) (by omega) (by decide) rfl rfl rfl (Nat.le_of_ble_eq_true rfl) (fun g hx => ?_)
                      refine o_aload_n dL_areLeft_131 rfl ?_
                      refine o_iload dL_areLeft_132 rfl ?_
                      refine y_v _ (cv_demand hl d g M P S T hx hwf t (by omega)) dL_areLeft_134 ml_L_54 yw_X11_demand rfl (by decide) (by omega) (by omega) (by omega) (by decide) rfl rfl rfl (Nat.le_of_ble_eq_true rfl) (fun g hx => ?_)
                      refine o_imul dL_areLeft_137 ?_
                      refine o_iload_n dL_areLeft_138 rfl ?_
                      refine o_idiv dL_areLeft_139 ⟨by omega, by omega⟩ ⟨by omega, by omega⟩ (by omega) (by omega) ?_
                      rw [← d_q_e h0 t]
                      refine o_icmp_ne (tgt := 145) dL_areLeft_140 (by decide) ⟨by omega, by omega⟩ ⟨by omega, by omega⟩ (fun c_140 => ?_) (fun c_140 => absurd c_140 (by omega))
                      refine o_iinc dL_areLeft_145 rfl (by decide) ?_
                      refine o_goto (tgt := 62) dL_areLeft_148 (by decide) ?_
                      exact o_loc [(0, .ref 0), (1, .int (o_I (d_all M))), (2, .int (o_I ((s : Int)))), (3, .int (o_I (d_r M s))), (4, .int (o_I (q))), (5, .int (o_I (((t + 1 : Nat) : Int))))] rfl (ih_62 (by omega)  g _ _ hx (by omega) (by omega)))
          exact o_loc [(0, .ref 0), (1, .int (o_I (d_all M))), (2, .int (o_I ((s : Int)))), (3, .int (o_I (d_r M s))), (4, .int (o_I (q))), (5, .int (o_I (((0 : Nat) : Int))))] rfl (key_62 0 (Nat.zero_le _)  g _ _ hx (by omega) (by omega)))
        refine o_aload_n dL_areLeft_19 rfl ?_
        refine y_v _ (cv_oil hl d g M P S T hx hwf) dL_areLeft_20 ml_L_168 yw_X11_oil rfl (by decide) (by omega) (by omega) (by omega) (by decide) rfl rfl rfl (Nat.le_of_ble_eq_true rfl) (fun g hx => ?_)
        refine o_aload_n dL_areLeft_23 rfl ?_
        refine o_iload_n dL_areLeft_24 rfl ?_
        refine y_v _ (cv_demand hl d g M P S T hx hwf s (by omega)) dL_areLeft_25 ml_L_54 yw_X11_demand rfl (by decide) (by omega) (by omega) (by omega) (by decide) rfl rfl rfl (Nat.le_of_ble_eq_true rfl) (fun g hx => ?_)
        refine o_imul dL_areLeft_28 ?_
        refine o_iload_n dL_areLeft_29 rfl ?_
        refine o_irem dL_areLeft_30 ⟨by omega, by omega⟩ ⟨by omega, by omega⟩ (by omega) (by omega) ?_
        rw [← d_r_e h0 s]
        refine o_istore_n dL_areLeft_31 (by decide) ?_
        refine o_aload_n dL_areLeft_32 rfl ?_
        refine o_iload_n dL_areLeft_33 rfl ?_
        refine y_v _ (cv_share hl d g M P S T hx hwf s (by omega)) dL_areLeft_34 ml_L_85 yw_X11_share rfl (by decide) (by omega) (by omega) (by omega) (by decide) rfl rfl rfl (Nat.le_of_ble_eq_true rfl) (fun g hx => ?_)
        refine o_aload_n dL_areLeft_37 rfl ?_
        refine y_v _ (cv_oil hl d g M P S T hx hwf) dL_areLeft_38 ml_L_168 yw_X11_oil rfl (by decide) (by omega) (by omega) (by omega) (by decide) rfl rfl rfl (Nat.le_of_ble_eq_true rfl) (fun g hx => ?_)
        refine o_aload_n dL_areLeft_41 rfl ?_
        refine o_iload_n dL_areLeft_42 rfl ?_
        refine y_v _ (cv_demand hl d g M P S T hx hwf s (by omega)) dL_areLeft_43 ml_L_54 yw_X11_demand rfl (by decide) (by omega) (by omega) (by omega) (by decide) rfl rfl rfl (Nat.le_of_ble_eq_true rfl) (fun g hx => ?_)
        refine o_imul dL_areLeft_46 ?_
        refine o_iload_n dL_areLeft_47 rfl ?_
        refine o_idiv dL_areLeft_48 ⟨by omega, by omega⟩ ⟨by omega, by omega⟩ (by omega) (by omega) ?_
        rw [← d_q_e h0 s]
        have r2 := d_q_R hwk s
        have r3 := d_sh_R hwk s
        refine o_icmp_le (tgt := 56) dL_areLeft_49 (by decide) ⟨by omega, by omega⟩ ⟨by omega, by omega⟩ (fun c_49 => ?_) (fun c_49 => ?_)
        · skip
          refine o_iconst dL_areLeft_56 ?_
          refine o_istore dL_areLeft_57 (by decide) ?_
          exact o_loc [(0, .ref 0), (1, .int (o_I (d_all M))), (2, .int (o_I ((s : Int)))), (3, .int (o_I (d_r M s))), (4, .int (o_I (0)))] rfl (J_59 (0) (by first | exact Or.inr rfl | exact Or.inl ⟨rfl, by omega⟩) g _ _ hx (by omega) (by omega))
        · skip
          refine o_iconst dL_areLeft_52 ?_
          refine o_goto (tgt := 57) dL_areLeft_53 (by decide) ?_
          refine o_istore dL_areLeft_57 (by decide) ?_
          exact o_loc [(0, .ref 0), (1, .int (o_I (d_all M))), (2, .int (o_I ((s : Int)))), (3, .int (o_I (d_r M s))), (4, .int (o_I (1)))] rfl (J_59 (1) (by first | exact Or.inr rfl | exact Or.inl ⟨rfl, by omega⟩) g _ _ hx (by omega) (by omega)))
  exact o_loc [(0, .ref 0), (1, .int (o_I (d_all M))), (2, .int (o_I (((0 : Nat) : Int))))] rfl (key_7 0 (Nat.zero_le _)  g _ _ hx (by omega) (by omega))
set_option maxRecDepth 100000 in
set_option maxHeartbeats 4000000 in
/-- oils -/
theorem ct_L_oils {l : Launch} (hl : l.stackTraces = false) (d : Nat) (g M : Nat → Nat → Int) (P : List (Nat → Nat → Int)) (S : Option (Nat → Nat → Int)) (T : Nat → Nat → Int) (hx : o_xd g M P S T) (hwf : o_wf M) : o_Ct l yL_oils wL_oils (d + 12) o_no [.ref 0] o_N (o_mem g) 10500 63000 (y_x (.int (o_I 1)) M P S T) := by
  refine o_Ct.ofV hl mL_oils (by decide +kernel) rfl rfl rfl (Nat.le_of_ble_eq_true rfl) ?_
  obtain ⟨⟨hws, hwl, hwq, hwo, hwle, hwrq, hwrd⟩, hwh, hwc, hwe⟩ := id hwf
  obtain ⟨b0, b1, bs⟩ := id hws
  obtain ⟨b2, b3, b4, b5, bl⟩ := id hwl
  obtain ⟨b6, b7, bq⟩ := id hwq
  obtain ⟨b8, b9⟩ := id hwo
  obtain ⟨R, hR⟩ : ∃ R, n_hp M 501 0 (M 0 2) = R := ⟨_, rfl⟩
  have J_110 : ∀ (fd : Int), (fd = (if R = -1 then -13 else R) ∧ -13 ≤ fd ∧ fd ≤ 500) → ∀ g mc ms, o_xd g M P S T → 400 ≤ mc → 6 * (400) ≤ ms → o_V l mL_oils (d + 12) o_no (y_x (.int (o_I 1)) M P S T) 110 [(0, .ref 0), (3, .int (o_I (fd)))] [] o_N (o_mem g) mc ms := (fun fd hfd g mc ms hx h1 h2 => by
    refine o_iconst dL_oils_110 ?_
    refine o_istore dL_oils_111 (by decide) ?_
    refine o_aload_n dL_oils_113 rfl ?_
    refine y_v _ (cv_oil hl d g M P S T hx hwf) dL_oils_114 ml_L_168 yw_X11_oil rfl (by decide) (by omega) (by omega) (by omega) (by decide) rfl rfl rfl (Nat.le_of_ble_eq_true rfl) (fun g hx => ?_)
    refine o_istore dL_oils_117 (by decide) ?_
    refine o_iconst dL_oils_119 ?_
    refine o_istore dL_oils_120 (by decide) ?_
    refine o_iload dL_oils_122 rfl ?_
    refine o_iconst dL_oils_124 ?_
    refine o_icmp_ge (tgt := 218) dL_oils_125 (by decide) ⟨by omega, by omega⟩ ⟨by omega, by omega⟩ (fun c_125 => absurd c_125 (by omega)) (fun c_125 => ?_)
    refine o_iconst dL_oils_128 ?_
    refine o_istore dL_oils_129 (by decide) ?_
    have key_131 := o_lp (fun j => ∀ (m : Int), (m = n_oc M 0 + n_lc M (n_oo M 0) 1 j) → ∀ (lf : Int), (lf = n_lo M (n_oo M 0) 1 j) → ∀ g mc ms, o_xd g M P S T → 3 * ((M 0 1).toNat - j) + 400 - 30 ≤ mc → 6 * (3 * ((M 0 1).toNat - j) + 400 - 30) ≤ ms → o_V l mL_oils (d + 12) o_no (y_x (.int (o_I 1)) M P S T) 131 [(0, .ref 0), (3, .int (o_I (fd))), (5, .int (o_I (m))), (6, .int (o_I (lf))), (7, .int (o_I (1))), (8, .int (o_I ((j : Int))))] [] o_N (o_mem g) mc ms) (M 0 1).toNat (fun j hj ih_131 m hm lf hlf g mc ms hx h1 h2 => by
      have q1 := n_lc_R M (n_oo M 0) 1 j
      have q2 := n_oo_R hwo 0
      have q3 := n_lo_R (M := M) (v := 1) q2 (by omega) j
      refine o_iload dL_oils_131 rfl ?_
      refine o_aload_n dL_oils_133 rfl ?_
      refine y_v _ (cv_lampCount hl d g M P S T hx hwf) dL_oils_134 ml_L_171 yw_X11_lampCount rfl (by decide) (by omega) (by omega) (by omega) (by decide) rfl rfl rfl (Nat.le_of_ble_eq_true rfl) (fun g hx => ?_)
      refine o_icmp_ge (tgt := 212) dL_oils_137 (by decide) ⟨by omega, by omega⟩ ⟨by omega, by omega⟩ (fun c_137 => ?_) (fun c_137 => ?_)
      · skip
        refine o_iinc dL_oils_212 rfl (by decide) ?_
        refine o_goto (tgt := 122) dL_oils_215 (by decide) ?_
        refine o_iload dL_oils_122 rfl ?_
        refine o_iconst dL_oils_124 ?_
        refine o_icmp_ge (tgt := 218) dL_oils_125 (by decide) ⟨by omega, by omega⟩ ⟨by omega, by omega⟩ (fun c_125 => absurd c_125 (by omega)) (fun c_125 => ?_)
        refine o_iconst dL_oils_128 ?_
        refine o_istore dL_oils_129 (by decide) ?_
        have key_131 := o_lp (fun j => ∀ (m : Int), (m = n_oc M 1 + n_lc M (n_oo M 1) 2 j) → ∀ (lf : Int), (lf = n_lo M (n_oo M 1) 2 j) → ∀ g mc ms, o_xd g M P S T → 3 * ((M 0 1).toNat - j) + 400 - 60 ≤ mc → 6 * (3 * ((M 0 1).toNat - j) + 400 - 60) ≤ ms → o_V l mL_oils (d + 12) o_no (y_x (.int (o_I 1)) M P S T) 131 [(0, .ref 0), (3, .int (o_I (fd))), (5, .int (o_I (m))), (6, .int (o_I (lf))), (7, .int (o_I ((1) + 1))), (8, .int (o_I ((j : Int))))] [] o_N (o_mem g) mc ms) (M 0 1).toNat (fun j hj ih_131 m hm lf hlf g mc ms hx h1 h2 => by
          have q1 := n_lc_R M (n_oo M 1) 2 j
          have q2 := n_oo_R hwo 1
          have q3 := n_lo_R (M := M) (v := 2) q2 (by omega) j
          refine o_iload dL_oils_131 rfl ?_
          refine o_aload_n dL_oils_133 rfl ?_
          refine y_v _ (cv_lampCount hl d g M P S T hx hwf) dL_oils_134 ml_L_171 yw_X11_lampCount rfl (by decide) (by omega) (by omega) (by omega) (by decide) rfl rfl rfl (Nat.le_of_ble_eq_true rfl) (fun g hx => ?_)
          refine o_icmp_ge (tgt := 212) dL_oils_137 (by decide) ⟨by omega, by omega⟩ ⟨by omega, by omega⟩ (fun c_137 => ?_) (fun c_137 => ?_)
          · skip
            refine o_iinc dL_oils_212 rfl (by decide) ?_
            refine o_goto (tgt := 122) dL_oils_215 (by decide) ?_
            refine o_iload dL_oils_122 rfl ?_
            refine o_iconst dL_oils_124 ?_
            refine o_icmp_ge (tgt := 218) dL_oils_125 (by decide) ⟨by omega, by omega⟩ ⟨by omega, by omega⟩ (fun c_125 => absurd c_125 (by omega)) (fun c_125 => ?_)
            refine o_iconst dL_oils_128 ?_
            refine o_istore dL_oils_129 (by decide) ?_
            have key_131 := o_lp (fun j => ∀ (m : Int), (m = n_oc M 2 + n_lc M (n_oo M 2) 3 j) → ∀ (lf : Int), (lf = n_lo M (n_oo M 2) 3 j) → ∀ g mc ms, o_xd g M P S T → 3 * ((M 0 1).toNat - j) + 400 - 90 ≤ mc → 6 * (3 * ((M 0 1).toNat - j) + 400 - 90) ≤ ms → o_V l mL_oils (d + 12) o_no (y_x (.int (o_I 1)) M P S T) 131 [(0, .ref 0), (3, .int (o_I (fd))), (5, .int (o_I (m))), (6, .int (o_I (lf))), (7, .int (o_I (((1) + 1) + 1))), (8, .int (o_I ((j : Int))))] [] o_N (o_mem g) mc ms) (M 0 1).toNat (fun j hj ih_131 m hm lf hlf g mc ms hx h1 h2 => by
              have q1 := n_lc_R M (n_oo M 2) 3 j
              have q2 := n_oo_R hwo 2
              have q3 := n_lo_R (M := M) (v := 3) q2 (by omega) j
              refine o_iload dL_oils_131 rfl ?_
              refine o_aload_n dL_oils_133 rfl ?_
              refine y_v _ (cv_lampCount hl d g M P S T hx hwf) dL_oils_134 ml_L_171 yw_X11_lampCount rfl (by decide) (by omega) (by omega) (by omega) (by decide) rfl rfl rfl (Nat.le_of_ble_eq_true rfl) (fun g hx => ?_)
              refine o_icmp_ge (tgt := 212) dL_oils_137 (by decide) ⟨by omega, by omega⟩ ⟨by omega, by omega⟩ (fun c_137 => ?_) (fun c_137 => ?_)
              · skip
                refine o_iinc dL_oils_212 rfl (by decide) ?_
                refine o_goto (tgt := 122) dL_oils_215 (by decide) ?_
                refine o_iload dL_oils_122 rfl ?_
                refine o_iconst dL_oils_124 ?_
                refine o_icmp_ge (tgt := 218) dL_oils_125 (by decide) ⟨by omega, by omega⟩ ⟨by omega, by omega⟩ (fun c_125 => ?_) (fun c_125 => absurd (by omega) c_125)
                have em : m = n_oc M 3 := by rw [hm, show j = (M 0 1).toNat by omega]; rfl
                have r4 := n_oc_R9 (M := M) b3 3
                have r5 := n_bc_R M (M 0 1).toNat
                have r6 := n_bc_le hwf.1
                have hho := cl_hoursOfOil hl d g M P S T hx hwf R hR
                have ho1 := hfd.2.1
                have ho2 := hfd.2.2
                refine o_aload_n dL_oils_218 rfl ?_
                refine y_s _ (ct_L_areLeft hl d g M P S T hx hwf) dL_oils_219 ml_L_241 ys_L_areLeft rfl (by decide) (by omega) (by omega) (by omega) rfl (Nat.le_of_ble_eq_true rfl) (fun g hx => ?_)
                refine o_if_eq (tgt := 290) dL_oils_222 (by decide) ⟨by omega, by omega⟩ (fun c_222 => absurd c_222 (by omega)) (fun c_222 => ?_)
                have hho := cl_hoursOfOil hl d g M P S T hx hwf R hR
                rw [← hfd.1] at hho
                refine o_aload_n dL_oils_225 rfl ?_
                refine y_q _ (hho) dL_oils_226 ml_L_244 ys_L_hoursOfOil rfl (by decide) (by omega) (by omega) (by omega) rfl (Nat.le_of_ble_eq_true rfl) (fun g hx => ?_)
                refine o_iload_n dL_oils_229 rfl ?_
                refine o_icmp_ne (tgt := 290) dL_oils_230 (by decide) ⟨by omega, by omega⟩ ⟨by omega, by omega⟩ (fun c_230 => absurd (by omega) c_230) (fun c_230 => ?_)
                have hhb := cl_byEnds hl d g M P S T hx hwf R hR
                rw [← hfd.1] at hhb
                refine o_aload_n dL_oils_233 rfl ?_
                refine y_q _ (hhb) dL_oils_234 ml_L_246 ys_L_byEnds rfl (by decide) (by omega) (by omega) (by omega) rfl (Nat.le_of_ble_eq_true rfl) (fun g hx => ?_)
                refine o_iload_n dL_oils_237 rfl ?_
                refine o_icmp_ne (tgt := 290) dL_oils_238 (by decide) ⟨by omega, by omega⟩ ⟨by omega, by omega⟩ (fun c_238 => absurd (by omega) c_238) (fun c_238 => ?_)
                refine o_aload_n dL_oils_241 rfl ?_
                refine y_v _ (cv_mostBright hl d g M P S T hx hwf) dL_oils_242 ml_L_249 yw_X11_mostBright rfl (by decide) (by omega) (by omega) (by omega) (by decide) rfl rfl rfl (Nat.le_of_ble_eq_true rfl) (fun g hx => ?_)
                refine o_iload dL_oils_245 rfl ?_
                refine o_icmp_ne (tgt := 290) dL_oils_247 (by decide) ⟨by omega, by omega⟩ ⟨by omega, by omega⟩ (fun c_247 => absurd (by omega) c_247) (fun c_247 => ?_)
                refine o_aload_n dL_oils_250 rfl ?_
                refine y_v _ (cv_mostBrightBySums hl d g M P S T hx hwf) dL_oils_251 ml_L_252 yw_X11_mostBrightBySums rfl (by decide) (by omega) (by omega) (by omega) (by decide) rfl rfl rfl (Nat.le_of_ble_eq_true rfl) (fun g hx => ?_)
                refine o_iload dL_oils_254 rfl ?_
                refine o_icmp_ne (tgt := 290) dL_oils_256 (by decide) ⟨by omega, by omega⟩ ⟨by omega, by omega⟩ (fun c_256 => absurd (by omega) c_256) (fun c_256 => ?_)
                refine o_aload_n dL_oils_259 rfl ?_
                refine y_v _ (cv_brightNext hl d g M P S T hx hwf) dL_oils_260 ml_L_255 yw_X11_brightNext rfl (by decide) (by omega) (by omega) (by omega) (by decide) rfl rfl rfl (Nat.le_of_ble_eq_true rfl) (fun g hx => ?_)
                refine o_aload_n dL_oils_263 rfl ?_
                refine y_s _ (ct_L_brightBy hl d g M P S T hx hwf) dL_oils_264 ml_L_258 ys_L_brightBy rfl (by decide) (by omega) (by omega) (by omega) rfl (Nat.le_of_ble_eq_true rfl) (fun g hx => ?_)
                refine o_icmp_ne (tgt := 290) dL_oils_267 (by decide) ⟨by omega, by omega⟩ ⟨by omega, by omega⟩ (fun c_267 => absurd (by omega) c_267) (fun c_267 => ?_)
                refine o_aload_n dL_oils_270 rfl ?_
                refine y_v _ (cv_brightNext hl d g M P S T hx hwf) dL_oils_271 ml_L_255 yw_X11_brightNext rfl (by decide) (by omega) (by omega) (by omega) (by decide) rfl rfl rfl (Nat.le_of_ble_eq_true rfl) (fun g hx => ?_)
                refine o_iload dL_oils_274 rfl ?_
                refine o_icmp_gt (tgt := 290) dL_oils_276 (by decide) ⟨by omega, by omega⟩ ⟨by omega, by omega⟩ (fun c_276 => absurd c_276 (by omega)) (fun c_276 => ?_)
                refine o_aload_n dL_oils_279 rfl ?_
                refine y_v _ (cv_isConsistent hl d g M P S T hx hwf) dL_oils_280 ml_L_261 yw_X11_isConsistent rfl (by decide) (by omega) (by omega) (by omega) (by decide) rfl rfl rfl (Nat.le_of_ble_eq_true rfl) (fun g hx => ?_)
                refine o_if_eq (tgt := 290) dL_oils_283 (by decide) ⟨by omega, by omega⟩ (fun c_283 => absurd c_283 (by omega)) (fun c_283 => ?_)
                refine o_iconst dL_oils_286 ?_
                refine o_goto (tgt := 291) dL_oils_287 (by decide) ?_
                refine o_ret1 dL_oils_291 (by first | exact o_rb0 | exact o_rb1) ?_
                exact ⟨rfl, ⟨g, rfl, hx⟩, rfl⟩
              · skip
                have l1 := bl j (by omega)
                have f5 := o_bcs (0 < M 5 j)
                have f6 := o_bcs (0 < M 5 j ∧ M 4 j = 3 ∧ 3 ≤ n_lo M (n_oo M 2) 3 j)
                refine o_aload_n dL_oils_140 rfl ?_
                refine o_iload dL_oils_141 rfl ?_
                refine y_q _ (cl_isLeased hl d g M P S T hx hwf j (by omega)) dL_oils_143 ml_L_237 ys_L_isLeased rfl (by decide) (by omega) (by omega) (by omega) rfl (Nat.le_of_ble_eq_true rfl) (fun g hx => ?_)
                refine o_iconst dL_oils_146 ?_
                refine o_icmp_ne (tgt := 172) dL_oils_147 (by decide) ⟨by omega, by omega⟩ ⟨by omega, by omega⟩ (fun c_147 => ?_) (fun c_147 => ?_)
                · skip
                  refine o_iconst dL_oils_172 ?_
                  refine o_istore dL_oils_173 (by decide) ?_
                  refine o_iload dL_oils_175 rfl ?_
                  refine o_iload dL_oils_177 rfl ?_
                  refine o_if_eq (tgt := 187) dL_oils_179 (by decide) ⟨by omega, by omega⟩ (fun c_179 => ?_) (fun c_179 => absurd (by omega) c_179)
                  refine o_iconst dL_oils_187 ?_
                  refine o_isub dL_oils_188 ?_
                  refine o_istore dL_oils_189 (by decide) ?_
                  refine o_iload dL_oils_191 rfl ?_
                  refine o_iload dL_oils_193 rfl ?_
                  refine o_if_eq (tgt := 202) dL_oils_195 (by decide) ⟨by omega, by omega⟩ (fun c_195 => ?_) (fun c_195 => absurd (by omega) c_195)
                  refine o_iconst dL_oils_202 ?_
                  refine o_iadd dL_oils_203 ?_
                  refine o_istore dL_oils_204 (by decide) ?_
                  refine o_iinc dL_oils_206 rfl (by decide) ?_
                  refine o_goto (tgt := 131) dL_oils_209 (by decide) ?_
                  exact o_loc [(0, .ref 0), (3, .int (o_I (fd))), (5, .int (o_I ((m) + (0)))), (6, .int (o_I ((lf) - (0)))), (7, .int (o_I (((1) + 1) + 1))), (8, .int (o_I (((j + 1 : Nat) : Int))))] rfl (ih_131 (by omega) ((m) + (0)) (by simp only [n_lc]; omega) ((lf) - (0)) (by simp only [n_lo]; split <;> omega) g _ _ hx (by omega) (by omega))
                · skip
                  refine o_aload_n dL_oils_150 rfl ?_
                  refine o_iload dL_oils_151 rfl ?_
                  refine y_q _ (cl_level hl d g M P S T hx hwf j (by omega)) dL_oils_153 ml_L_239 ys_L_level rfl (by decide) (by omega) (by omega) (by omega) rfl (Nat.le_of_ble_eq_true rfl) (fun g hx => ?_)
                  refine o_iload dL_oils_156 rfl ?_
                  refine o_icmp_ne (tgt := 172) dL_oils_158 (by decide) ⟨by omega, by omega⟩ ⟨by omega, by omega⟩ (fun c_158 => ?_) (fun c_158 => ?_)
                  · skip
                    refine o_iconst dL_oils_172 ?_
                    refine o_istore dL_oils_173 (by decide) ?_
                    refine o_iload dL_oils_175 rfl ?_
                    refine o_iload dL_oils_177 rfl ?_
                    refine o_if_eq (tgt := 187) dL_oils_179 (by decide) ⟨by omega, by omega⟩ (fun c_179 => ?_) (fun c_179 => absurd (by omega) c_179)
                    refine o_iconst dL_oils_187 ?_
                    refine o_isub dL_oils_188 ?_
                    refine o_istore dL_oils_189 (by decide) ?_
                    refine o_iload dL_oils_191 rfl ?_
                    refine o_iload dL_oils_193 rfl ?_
                    refine o_if_eq (tgt := 202) dL_oils_195 (by decide) ⟨by omega, by omega⟩ (fun c_195 => ?_) (fun c_195 => absurd (by omega) c_195)
                    refine o_iconst dL_oils_202 ?_
                    refine o_iadd dL_oils_203 ?_
                    refine o_istore dL_oils_204 (by decide) ?_
                    refine o_iinc dL_oils_206 rfl (by decide) ?_
                    refine o_goto (tgt := 131) dL_oils_209 (by decide) ?_
                    exact o_loc [(0, .ref 0), (3, .int (o_I (fd))), (5, .int (o_I ((m) + (0)))), (6, .int (o_I ((lf) - (0)))), (7, .int (o_I (((1) + 1) + 1))), (8, .int (o_I (((j + 1 : Nat) : Int))))] rfl (ih_131 (by omega) ((m) + (0)) (by simp only [n_lc]; omega) ((lf) - (0)) (by simp only [n_lo]; split <;> omega) g _ _ hx (by omega) (by omega))
                  · skip
                    refine o_iload dL_oils_161 rfl ?_
                    refine o_iload dL_oils_163 rfl ?_
                    refine o_icmp_lt (tgt := 172) dL_oils_165 (by decide) ⟨by omega, by omega⟩ ⟨by omega, by omega⟩ (fun c_165 => ?_) (fun c_165 => ?_)
                    · skip
                      refine o_iconst dL_oils_172 ?_
                      refine o_istore dL_oils_173 (by decide) ?_
                      refine o_iload dL_oils_175 rfl ?_
                      refine o_iload dL_oils_177 rfl ?_
                      refine o_if_eq (tgt := 187) dL_oils_179 (by decide) ⟨by omega, by omega⟩ (fun c_179 => ?_) (fun c_179 => absurd (by omega) c_179)
                      refine o_iconst dL_oils_187 ?_
                      refine o_isub dL_oils_188 ?_
                      refine o_istore dL_oils_189 (by decide) ?_
                      refine o_iload dL_oils_191 rfl ?_
                      refine o_iload dL_oils_193 rfl ?_
                      refine o_if_eq (tgt := 202) dL_oils_195 (by decide) ⟨by omega, by omega⟩ (fun c_195 => ?_) (fun c_195 => absurd (by omega) c_195)
                      refine o_iconst dL_oils_202 ?_
                      refine o_iadd dL_oils_203 ?_
                      refine o_istore dL_oils_204 (by decide) ?_
                      refine o_iinc dL_oils_206 rfl (by decide) ?_
                      refine o_goto (tgt := 131) dL_oils_209 (by decide) ?_
                      exact o_loc [(0, .ref 0), (3, .int (o_I (fd))), (5, .int (o_I ((m) + (0)))), (6, .int (o_I ((lf) - (0)))), (7, .int (o_I (((1) + 1) + 1))), (8, .int (o_I (((j + 1 : Nat) : Int))))] rfl (ih_131 (by omega) ((m) + (0)) (by simp only [n_lc]; omega) ((lf) - (0)) (by simp only [n_lo]; split <;> omega) g _ _ hx (by omega) (by omega))
                    · skip
                      refine o_iconst dL_oils_168 ?_
                      refine o_goto (tgt := 173) dL_oils_169 (by decide) ?_
                      refine o_istore dL_oils_173 (by decide) ?_
                      refine o_iload dL_oils_175 rfl ?_
                      refine o_iload dL_oils_177 rfl ?_
                      refine o_if_eq (tgt := 187) dL_oils_179 (by decide) ⟨by omega, by omega⟩ (fun c_179 => absurd c_179 (by omega)) (fun c_179 => ?_)
                      refine o_iload dL_oils_182 rfl ?_
                      refine o_goto (tgt := 188) dL_oils_184 (by decide) ?_
                      refine o_isub dL_oils_188 ?_
                      refine o_istore dL_oils_189 (by decide) ?_
                      refine o_iload dL_oils_191 rfl ?_
                      refine o_iload dL_oils_193 rfl ?_
                      refine o_if_eq (tgt := 202) dL_oils_195 (by decide) ⟨by omega, by omega⟩ (fun c_195 => absurd c_195 (by omega)) (fun c_195 => ?_)
                      refine o_iconst dL_oils_198 ?_
                      refine o_goto (tgt := 203) dL_oils_199 (by decide) ?_
                      refine o_iadd dL_oils_203 ?_
                      refine o_istore dL_oils_204 (by decide) ?_
                      refine o_iinc dL_oils_206 rfl (by decide) ?_
                      refine o_goto (tgt := 131) dL_oils_209 (by decide) ?_
                      exact o_loc [(0, .ref 0), (3, .int (o_I (fd))), (5, .int (o_I ((m) + (1)))), (6, .int (o_I ((lf) - (((1) + 1) + 1)))), (7, .int (o_I (((1) + 1) + 1))), (8, .int (o_I (((j + 1 : Nat) : Int))))] rfl (ih_131 (by omega) ((m) + (1)) (by simp only [n_lc]; omega) ((lf) - (((1) + 1) + 1)) (by simp only [n_lo]; split <;> omega) g _ _ hx (by omega) (by omega)))
            exact o_loc [(0, .ref 0), (3, .int (o_I (fd))), (5, .int (o_I (m))), (6, .int (o_I (lf))), (7, .int (o_I (((1) + 1) + 1))), (8, .int (o_I (((0 : Nat) : Int))))] rfl (key_131 0 (Nat.zero_le _) (m) (by rw [hm, show j = (M 0 1).toNat by omega]; show _ = n_oc M 2 + 0; rw [Int.add_zero]; rfl) (lf) (by rw [hlf, show j = (M 0 1).toNat by omega]; rfl) g _ _ hx (by omega) (by omega))
          · skip
            have l1 := bl j (by omega)
            have f5 := o_bcs (0 < M 5 j)
            have f6 := o_bcs (0 < M 5 j ∧ M 4 j = 2 ∧ 2 ≤ n_lo M (n_oo M 1) 2 j)
            refine o_aload_n dL_oils_140 rfl ?_
            refine o_iload dL_oils_141 rfl ?_
            refine y_q _ (cl_isLeased hl d g M P S T hx hwf j (by omega)) dL_oils_143 ml_L_237 ys_L_isLeased rfl (by decide) (by omega) (by omega) (by omega) rfl (Nat.le_of_ble_eq_true rfl) (fun g hx => ?_)
            refine o_iconst dL_oils_146 ?_
            refine o_icmp_ne (tgt := 172) dL_oils_147 (by decide) ⟨by omega, by omega⟩ ⟨by omega, by omega⟩ (fun c_147 => ?_) (fun c_147 => ?_)
            · skip
              refine o_iconst dL_oils_172 ?_
              refine o_istore dL_oils_173 (by decide) ?_
              refine o_iload dL_oils_175 rfl ?_
              refine o_iload dL_oils_177 rfl ?_
              refine o_if_eq (tgt := 187) dL_oils_179 (by decide) ⟨by omega, by omega⟩ (fun c_179 => ?_) (fun c_179 => absurd (by omega) c_179)
              refine o_iconst dL_oils_187 ?_
              refine o_isub dL_oils_188 ?_
              refine o_istore dL_oils_189 (by decide) ?_
              refine o_iload dL_oils_191 rfl ?_
              refine o_iload dL_oils_193 rfl ?_
              refine o_if_eq (tgt := 202) dL_oils_195 (by decide) ⟨by omega, by omega⟩ (fun c_195 => ?_) (fun c_195 => absurd (by omega) c_195)
              refine o_iconst dL_oils_202 ?_
              refine o_iadd dL_oils_203 ?_
              refine o_istore dL_oils_204 (by decide) ?_
              refine o_iinc dL_oils_206 rfl (by decide) ?_
              refine o_goto (tgt := 131) dL_oils_209 (by decide) ?_
              exact o_loc [(0, .ref 0), (3, .int (o_I (fd))), (5, .int (o_I ((m) + (0)))), (6, .int (o_I ((lf) - (0)))), (7, .int (o_I ((1) + 1))), (8, .int (o_I (((j + 1 : Nat) : Int))))] rfl (ih_131 (by omega) ((m) + (0)) (by simp only [n_lc]; omega) ((lf) - (0)) (by simp only [n_lo]; split <;> omega) g _ _ hx (by omega) (by omega))
            · skip
              refine o_aload_n dL_oils_150 rfl ?_
              refine o_iload dL_oils_151 rfl ?_
              refine y_q _ (cl_level hl d g M P S T hx hwf j (by omega)) dL_oils_153 ml_L_239 ys_L_level rfl (by decide) (by omega) (by omega) (by omega) rfl (Nat.le_of_ble_eq_true rfl) (fun g hx => ?_)
              refine o_iload dL_oils_156 rfl ?_
              refine o_icmp_ne (tgt := 172) dL_oils_158 (by decide) ⟨by omega, by omega⟩ ⟨by omega, by omega⟩ (fun c_158 => ?_) (fun c_158 => ?_)
              · skip
                refine o_iconst dL_oils_172 ?_
                refine o_istore dL_oils_173 (by decide) ?_
                refine o_iload dL_oils_175 rfl ?_
                refine o_iload dL_oils_177 rfl ?_
                refine o_if_eq (tgt := 187) dL_oils_179 (by decide) ⟨by omega, by omega⟩ (fun c_179 => ?_) (fun c_179 => absurd (by omega) c_179)
                refine o_iconst dL_oils_187 ?_
                refine o_isub dL_oils_188 ?_
                refine o_istore dL_oils_189 (by decide) ?_
                refine o_iload dL_oils_191 rfl ?_
                refine o_iload dL_oils_193 rfl ?_
                refine o_if_eq (tgt := 202) dL_oils_195 (by decide) ⟨by omega, by omega⟩ (fun c_195 => ?_) (fun c_195 => absurd (by omega) c_195)
                refine o_iconst dL_oils_202 ?_
                refine o_iadd dL_oils_203 ?_
                refine o_istore dL_oils_204 (by decide) ?_
                refine o_iinc dL_oils_206 rfl (by decide) ?_
                refine o_goto (tgt := 131) dL_oils_209 (by decide) ?_
                exact o_loc [(0, .ref 0), (3, .int (o_I (fd))), (5, .int (o_I ((m) + (0)))), (6, .int (o_I ((lf) - (0)))), (7, .int (o_I ((1) + 1))), (8, .int (o_I (((j + 1 : Nat) : Int))))] rfl (ih_131 (by omega) ((m) + (0)) (by simp only [n_lc]; omega) ((lf) - (0)) (by simp only [n_lo]; split <;> omega) g _ _ hx (by omega) (by omega))
              · skip
                refine o_iload dL_oils_161 rfl ?_
                refine o_iload dL_oils_163 rfl ?_
                refine o_icmp_lt (tgt := 172) dL_oils_165 (by decide) ⟨by omega, by omega⟩ ⟨by omega, by omega⟩ (fun c_165 => ?_) (fun c_165 => ?_)
                · skip
                  refine o_iconst dL_oils_172 ?_
                  refine o_istore dL_oils_173 (by decide) ?_
                  refine o_iload dL_oils_175 rfl ?_
                  refine o_iload dL_oils_177 rfl ?_
                  refine o_if_eq (tgt := 187) dL_oils_179 (by decide) ⟨by omega, by omega⟩ (fun c_179 => ?_) (fun c_179 => absurd (by omega) c_179)
                  refine o_iconst dL_oils_187 ?_
                  refine o_isub dL_oils_188 ?_
                  refine o_istore dL_oils_189 (by decide) ?_
                  refine o_iload dL_oils_191 rfl ?_
                  refine o_iload dL_oils_193 rfl ?_
                  refine o_if_eq (tgt := 202) dL_oils_195 (by decide) ⟨by omega, by omega⟩ (fun c_195 => ?_) (fun c_195 => absurd (by omega) c_195)
                  refine o_iconst dL_oils_202 ?_
                  refine o_iadd dL_oils_203 ?_
                  refine o_istore dL_oils_204 (by decide) ?_
                  refine o_iinc dL_oils_206 rfl (by decide) ?_
                  refine o_goto (tgt := 131) dL_oils_209 (by decide) ?_
                  exact o_loc [(0, .ref 0), (3, .int (o_I (fd))), (5, .int (o_I ((m) + (0)))), (6, .int (o_I ((lf) - (0)))), (7, .int (o_I ((1) + 1))), (8, .int (o_I (((j + 1 : Nat) : Int))))] rfl (ih_131 (by omega) ((m) + (0)) (by simp only [n_lc]; omega) ((lf) - (0)) (by simp only [n_lo]; split <;> omega) g _ _ hx (by omega) (by omega))
                · skip
                  refine o_iconst dL_oils_168 ?_
                  refine o_goto (tgt := 173) dL_oils_169 (by decide) ?_
                  refine o_istore dL_oils_173 (by decide) ?_
                  refine o_iload dL_oils_175 rfl ?_
                  refine o_iload dL_oils_177 rfl ?_
                  refine o_if_eq (tgt := 187) dL_oils_179 (by decide) ⟨by omega, by omega⟩ (fun c_179 => absurd c_179 (by omega)) (fun c_179 => ?_)
                  refine o_iload dL_oils_182 rfl ?_
                  refine o_goto (tgt := 188) dL_oils_184 (by decide) ?_
                  refine o_isub dL_oils_188 ?_
                  refine o_istore dL_oils_189 (by decide) ?_
                  refine o_iload dL_oils_191 rfl ?_
                  refine o_iload dL_oils_193 rfl ?_
                  refine o_if_eq (tgt := 202) dL_oils_195 (by decide) ⟨by omega, by omega⟩ (fun c_195 => absurd c_195 (by omega)) (fun c_195 => ?_)
                  refine o_iconst dL_oils_198 ?_
                  refine o_goto (tgt := 203) dL_oils_199 (by decide) ?_
                  refine o_iadd dL_oils_203 ?_
                  refine o_istore dL_oils_204 (by decide) ?_
                  refine o_iinc dL_oils_206 rfl (by decide) ?_
                  refine o_goto (tgt := 131) dL_oils_209 (by decide) ?_
                  exact o_loc [(0, .ref 0), (3, .int (o_I (fd))), (5, .int (o_I ((m) + (1)))), (6, .int (o_I ((lf) - ((1) + 1)))), (7, .int (o_I ((1) + 1))), (8, .int (o_I (((j + 1 : Nat) : Int))))] rfl (ih_131 (by omega) ((m) + (1)) (by simp only [n_lc]; omega) ((lf) - ((1) + 1)) (by simp only [n_lo]; split <;> omega) g _ _ hx (by omega) (by omega)))
        exact o_loc [(0, .ref 0), (3, .int (o_I (fd))), (5, .int (o_I (m))), (6, .int (o_I (lf))), (7, .int (o_I ((1) + 1))), (8, .int (o_I (((0 : Nat) : Int))))] rfl (key_131 0 (Nat.zero_le _) (m) (by rw [hm, show j = (M 0 1).toNat by omega]; show _ = n_oc M 1 + 0; rw [Int.add_zero]; rfl) (lf) (by rw [hlf, show j = (M 0 1).toNat by omega]; rfl) g _ _ hx (by omega) (by omega))
      · skip
        have l1 := bl j (by omega)
        have f5 := o_bcs (0 < M 5 j)
        have f6 := o_bcs (0 < M 5 j ∧ M 4 j = 1 ∧ 1 ≤ n_lo M (n_oo M 0) 1 j)
        refine o_aload_n dL_oils_140 rfl ?_
        refine o_iload dL_oils_141 rfl ?_
        refine y_q _ (cl_isLeased hl d g M P S T hx hwf j (by omega)) dL_oils_143 ml_L_237 ys_L_isLeased rfl (by decide) (by omega) (by omega) (by omega) rfl (Nat.le_of_ble_eq_true rfl) (fun g hx => ?_)
        refine o_iconst dL_oils_146 ?_
        refine o_icmp_ne (tgt := 172) dL_oils_147 (by decide) ⟨by omega, by omega⟩ ⟨by omega, by omega⟩ (fun c_147 => ?_) (fun c_147 => ?_)
        · skip
          refine o_iconst dL_oils_172 ?_
          refine o_istore dL_oils_173 (by decide) ?_
          refine o_iload dL_oils_175 rfl ?_
          refine o_iload dL_oils_177 rfl ?_
          refine o_if_eq (tgt := 187) dL_oils_179 (by decide) ⟨by omega, by omega⟩ (fun c_179 => ?_) (fun c_179 => absurd (by omega) c_179)
          refine o_iconst dL_oils_187 ?_
          refine o_isub dL_oils_188 ?_
          refine o_istore dL_oils_189 (by decide) ?_
          refine o_iload dL_oils_191 rfl ?_
          refine o_iload dL_oils_193 rfl ?_
          refine o_if_eq (tgt := 202) dL_oils_195 (by decide) ⟨by omega, by omega⟩ (fun c_195 => ?_) (fun c_195 => absurd (by omega) c_195)
          refine o_iconst dL_oils_202 ?_
          refine o_iadd dL_oils_203 ?_
          refine o_istore dL_oils_204 (by decide) ?_
          refine o_iinc dL_oils_206 rfl (by decide) ?_
          refine o_goto (tgt := 131) dL_oils_209 (by decide) ?_
          exact o_loc [(0, .ref 0), (3, .int (o_I (fd))), (5, .int (o_I ((m) + (0)))), (6, .int (o_I ((lf) - (0)))), (7, .int (o_I (1))), (8, .int (o_I (((j + 1 : Nat) : Int))))] rfl (ih_131 (by omega) ((m) + (0)) (by simp only [n_lc]; omega) ((lf) - (0)) (by simp only [n_lo]; split <;> omega) g _ _ hx (by omega) (by omega))
        · skip
          refine o_aload_n dL_oils_150 rfl ?_
          refine o_iload dL_oils_151 rfl ?_
          refine y_q _ (cl_level hl d g M P S T hx hwf j (by omega)) dL_oils_153 ml_L_239 ys_L_level rfl (by decide) (by omega) (by omega) (by omega) rfl (Nat.le_of_ble_eq_true rfl) (fun g hx => ?_)
          refine o_iload dL_oils_156 rfl ?_
          refine o_icmp_ne (tgt := 172) dL_oils_158 (by decide) ⟨by omega, by omega⟩ ⟨by omega, by omega⟩ (fun c_158 => ?_) (fun c_158 => ?_)
          · skip
            refine o_iconst dL_oils_172 ?_
            refine o_istore dL_oils_173 (by decide) ?_
            refine o_iload dL_oils_175 rfl ?_
            refine o_iload dL_oils_177 rfl ?_
            refine o_if_eq (tgt := 187) dL_oils_179 (by decide) ⟨by omega, by omega⟩ (fun c_179 => ?_) (fun c_179 => absurd (by omega) c_179)
            refine o_iconst dL_oils_187 ?_
            refine o_isub dL_oils_188 ?_
            refine o_istore dL_oils_189 (by decide) ?_
            refine o_iload dL_oils_191 rfl ?_
            refine o_iload dL_oils_193 rfl ?_
            refine o_if_eq (tgt := 202) dL_oils_195 (by decide) ⟨by omega, by omega⟩ (fun c_195 => ?_) (fun c_195 => absurd (by omega) c_195)
            refine o_iconst dL_oils_202 ?_
            refine o_iadd dL_oils_203 ?_
            refine o_istore dL_oils_204 (by decide) ?_
            refine o_iinc dL_oils_206 rfl (by decide) ?_
            refine o_goto (tgt := 131) dL_oils_209 (by decide) ?_
            exact o_loc [(0, .ref 0), (3, .int (o_I (fd))), (5, .int (o_I ((m) + (0)))), (6, .int (o_I ((lf) - (0)))), (7, .int (o_I (1))), (8, .int (o_I (((j + 1 : Nat) : Int))))] rfl (ih_131 (by omega) ((m) + (0)) (by simp only [n_lc]; omega) ((lf) - (0)) (by simp only [n_lo]; split <;> omega) g _ _ hx (by omega) (by omega))
          · skip
            refine o_iload dL_oils_161 rfl ?_
            refine o_iload dL_oils_163 rfl ?_
            refine o_icmp_lt (tgt := 172) dL_oils_165 (by decide) ⟨by omega, by omega⟩ ⟨by omega, by omega⟩ (fun c_165 => ?_) (fun c_165 => ?_)
            · skip
              refine o_iconst dL_oils_172 ?_
              refine o_istore dL_oils_173 (by decide) ?_
              refine o_iload dL_oils_175 rfl ?_
              refine o_iload dL_oils_177 rfl ?_
              refine o_if_eq (tgt := 187) dL_oils_179 (by decide) ⟨by omega, by omega⟩ (fun c_179 => ?_) (fun c_179 => absurd (by omega) c_179)
              refine o_iconst dL_oils_187 ?_
              refine o_isub dL_oils_188 ?_
              refine o_istore dL_oils_189 (by decide) ?_
              refine o_iload dL_oils_191 rfl ?_
              refine o_iload dL_oils_193 rfl ?_
              refine o_if_eq (tgt := 202) dL_oils_195 (by decide) ⟨by omega, by omega⟩ (fun c_195 => ?_) (fun c_195 => absurd (by omega) c_195)
              refine o_iconst dL_oils_202 ?_
              refine o_iadd dL_oils_203 ?_
              refine o_istore dL_oils_204 (by decide) ?_
              refine o_iinc dL_oils_206 rfl (by decide) ?_
              refine o_goto (tgt := 131) dL_oils_209 (by decide) ?_
              exact o_loc [(0, .ref 0), (3, .int (o_I (fd))), (5, .int (o_I ((m) + (0)))), (6, .int (o_I ((lf) - (0)))), (7, .int (o_I (1))), (8, .int (o_I (((j + 1 : Nat) : Int))))] rfl (ih_131 (by omega) ((m) + (0)) (by simp only [n_lc]; omega) ((lf) - (0)) (by simp only [n_lo]; split <;> omega) g _ _ hx (by omega) (by omega))
            · skip
              refine o_iconst dL_oils_168 ?_
              refine o_goto (tgt := 173) dL_oils_169 (by decide) ?_
              refine o_istore dL_oils_173 (by decide) ?_
              refine o_iload dL_oils_175 rfl ?_
              refine o_iload dL_oils_177 rfl ?_
              refine o_if_eq (tgt := 187) dL_oils_179 (by decide) ⟨by omega, by omega⟩ (fun c_179 => absurd c_179 (by omega)) (fun c_179 => ?_)
              refine o_iload dL_oils_182 rfl ?_
              refine o_goto (tgt := 188) dL_oils_184 (by decide) ?_
              refine o_isub dL_oils_188 ?_
              refine o_istore dL_oils_189 (by decide) ?_
              refine o_iload dL_oils_191 rfl ?_
              refine o_iload dL_oils_193 rfl ?_
              refine o_if_eq (tgt := 202) dL_oils_195 (by decide) ⟨by omega, by omega⟩ (fun c_195 => absurd c_195 (by omega)) (fun c_195 => ?_)
              refine o_iconst dL_oils_198 ?_
              refine o_goto (tgt := 203) dL_oils_199 (by decide) ?_
              refine o_iadd dL_oils_203 ?_
              refine o_istore dL_oils_204 (by decide) ?_
              refine o_iinc dL_oils_206 rfl (by decide) ?_
              refine o_goto (tgt := 131) dL_oils_209 (by decide) ?_
              exact o_loc [(0, .ref 0), (3, .int (o_I (fd))), (5, .int (o_I ((m) + (1)))), (6, .int (o_I ((lf) - (1)))), (7, .int (o_I (1))), (8, .int (o_I (((j + 1 : Nat) : Int))))] rfl (ih_131 (by omega) ((m) + (1)) (by simp only [n_lc]; omega) ((lf) - (1)) (by simp only [n_lo]; split <;> omega) g _ _ hx (by omega) (by omega)))
    exact o_loc [(0, .ref 0), (3, .int (o_I (fd))), (5, .int (o_I (0))), (6, .int (o_I (M 0 2))), (7, .int (o_I (1))), (8, .int (o_I (((0 : Nat) : Int))))] rfl (key_131 0 (Nat.zero_le _) (0) (rfl) (M 0 2) (rfl) g _ _ hx (by omega) (by omega)))
  have loop : ∀ (f h : Nat) (o : Int), 0 ≤ o → o < f → (h : Int) + o ≤ 500 → n_hp M f h o = R → ∀ g mc ms, o_xd g M P S T → 20 * (o.toNat + 1) + 400 ≤ mc → 6 * (20 * (o.toNat + 1) + 400) ≤ ms → o_V l mL_oils (d + 12) o_no (y_x (.int (o_I 1)) M P S T) 13 [(0, .ref 0), (1, .int (o_I (o))), (2, .int (o_I ((h : Int)))), (3, .int (o_I (-13))), (4, .int (o_I (1)))] [] o_N (o_mem g) mc ms := by
    intro f
    induction f with
    | zero => intro h o a1 a2; omega
    | succ f ih =>
      intro h o a1 a2 a3 hn g mc ms hx h1 h2
      refine o_iload dL_oils_13 rfl ?_
      refine o_if_eq (tgt := 110) dL_oils_15 (by decide) ⟨by omega, by omega⟩ (fun c_15 => absurd c_15 (by omega)) (fun c_15 => ?_)
      refine o_iconst dL_oils_18 ?_
      refine o_istore dL_oils_19 (by decide) ?_
      refine o_iconst dL_oils_21 ?_
      refine o_istore dL_oils_22 (by decide) ?_
      have key_24 := o_lp (fun j => ∀ (nd : Int), (nd = o_sm (fun i => if 0 < M 5 i ∧ M 0 3 + (h : Int) < M 6 i then M 4 i else 0) j) → ∀ g mc ms, o_xd g M P S T → 2 * ((M 0 1).toNat - j) + (20 * o.toNat + 400) ≤ mc → 6 * (2 * ((M 0 1).toNat - j) + (20 * o.toNat + 400)) ≤ ms → o_V l mL_oils (d + 12) o_no (y_x (.int (o_I 1)) M P S T) 24 [(0, .ref 0), (1, .int (o_I (o))), (2, .int (o_I ((h : Int)))), (3, .int (o_I (-13))), (4, .int (o_I (1))), (5, .int (o_I (nd))), (6, .int (o_I ((j : Int))))] [] o_N (o_mem g) mc ms) (M 0 1).toNat (fun j hj ih_24 nd hnd g mc ms hx h1 h2 => by
        refine o_iload dL_oils_24 rfl ?_
        refine o_aload_n dL_oils_26 rfl ?_
        refine y_v _ (cv_lampCount hl d g M P S T hx hwf) dL_oils_27 ml_L_171 yw_X11_lampCount rfl (by decide) (by omega) (by omega) (by omega) (by decide) rfl rfl rfl (Nat.le_of_ble_eq_true rfl) (fun g hx => ?_)
        refine o_icmp_ge (tgt := 69) dL_oils_30 (by decide) ⟨by omega, by omega⟩ ⟨by omega, by omega⟩ (fun c_30 => ?_) (fun c_30 => ?_)
        · skip
          have hnD : nd = m_D M (M 0 3 + (h : Int)) := by rw [hnd, show j = (M 0 1).toNat by omega]; rfl
          have r1 := m_D_R hwl (M 0 3 + (h : Int))
          refine o_iload dL_oils_69 rfl ?_
          refine o_if_le (tgt := 84) dL_oils_71 (by decide) ⟨by omega, by omega⟩ (fun c_71 => ?_) (fun c_71 => ?_)
          · skip
            refine o_iconst dL_oils_84 ?_
            refine o_istore dL_oils_85 (by decide) ?_
            refine o_iload dL_oils_87 rfl ?_
            refine o_iload_n dL_oils_89 rfl ?_
            refine o_icmp_le (tgt := 97) dL_oils_90 (by decide) ⟨by omega, by omega⟩ ⟨by omega, by omega⟩ (fun c_90 => ?_) (fun c_90 => ?_)
            · skip
              refine o_iload_n dL_oils_97 rfl ?_
              refine o_istore_n dL_oils_98 (by decide) ?_
              refine o_iload_n dL_oils_99 rfl ?_
              refine o_iload dL_oils_100 rfl ?_
              refine o_isub dL_oils_102 ?_
              refine o_istore_n dL_oils_103 (by decide) ?_
              refine o_iinc dL_oils_104 rfl (by decide) ?_
              refine o_goto (tgt := 13) dL_oils_107 (by decide) ?_
              refine o_iload dL_oils_13 rfl ?_
              refine o_if_eq (tgt := 110) dL_oils_15 (by decide) ⟨by omega, by omega⟩ (fun c_15 => ?_) (fun c_15 => absurd (by omega) c_15)
              exact o_loc [(0, .ref 0), (3, .int (o_I (-13)))] rfl (J_110 (-13) (by first | (exfalso; omega) | exact ⟨by rw [if_pos (hn.symm.trans (n_hp0 (by omega)))], by omega, by omega⟩ | exact ⟨by rw [if_neg (by have := hn.symm.trans (n_hp1 (by omega) (by omega)); omega)]; exact (hn.symm.trans (n_hp1 (by omega) (by omega))).symm, by omega, by omega⟩) g _ _ hx (by omega) (by omega))
            · skip
              refine o_iload_n dL_oils_93 rfl ?_
              refine o_goto (tgt := 98) dL_oils_94 (by decide) ?_
              refine o_istore_n dL_oils_98 (by decide) ?_
              refine o_iload_n dL_oils_99 rfl ?_
              refine o_iload dL_oils_100 rfl ?_
              refine o_isub dL_oils_102 ?_
              refine o_istore_n dL_oils_103 (by decide) ?_
              refine o_iinc dL_oils_104 rfl (by decide) ?_
              refine o_goto (tgt := 13) dL_oils_107 (by decide) ?_
              refine o_iload dL_oils_13 rfl ?_
              refine o_if_eq (tgt := 110) dL_oils_15 (by decide) ⟨by omega, by omega⟩ (fun c_15 => ?_) (fun c_15 => absurd (by omega) c_15)
              exact o_loc [(0, .ref 0), (3, .int (o_I ((h : Int))))] rfl (J_110 ((h : Int)) (by first | (exfalso; omega) | exact ⟨by rw [if_pos (hn.symm.trans (n_hp0 (by omega)))], by omega, by omega⟩ | exact ⟨by rw [if_neg (by have := hn.symm.trans (n_hp1 (by omega) (by omega)); omega)]; exact (hn.symm.trans (n_hp1 (by omega) (by omega))).symm, by omega, by omega⟩) g _ _ hx (by omega) (by omega))
          · skip
            refine o_iload dL_oils_74 rfl ?_
            refine o_iload_n dL_oils_76 rfl ?_
            refine o_icmp_gt (tgt := 84) dL_oils_77 (by decide) ⟨by omega, by omega⟩ ⟨by omega, by omega⟩ (fun c_77 => ?_) (fun c_77 => ?_)
            · skip
              refine o_iconst dL_oils_84 ?_
              refine o_istore dL_oils_85 (by decide) ?_
              refine o_iload dL_oils_87 rfl ?_
              refine o_iload_n dL_oils_89 rfl ?_
              refine o_icmp_le (tgt := 97) dL_oils_90 (by decide) ⟨by omega, by omega⟩ ⟨by omega, by omega⟩ (fun c_90 => ?_) (fun c_90 => ?_)
              · skip
                refine o_iload_n dL_oils_97 rfl ?_
                refine o_istore_n dL_oils_98 (by decide) ?_
                refine o_iload_n dL_oils_99 rfl ?_
                refine o_iload dL_oils_100 rfl ?_
                refine o_isub dL_oils_102 ?_
                refine o_istore_n dL_oils_103 (by decide) ?_
                refine o_iinc dL_oils_104 rfl (by decide) ?_
                refine o_goto (tgt := 13) dL_oils_107 (by decide) ?_
                refine o_iload dL_oils_13 rfl ?_
                refine o_if_eq (tgt := 110) dL_oils_15 (by decide) ⟨by omega, by omega⟩ (fun c_15 => ?_) (fun c_15 => absurd (by omega) c_15)
                exact o_loc [(0, .ref 0), (3, .int (o_I (-13)))] rfl (J_110 (-13) (by first | (exfalso; omega) | exact ⟨by rw [if_pos (hn.symm.trans (n_hp0 (by omega)))], by omega, by omega⟩ | exact ⟨by rw [if_neg (by have := hn.symm.trans (n_hp1 (by omega) (by omega)); omega)]; exact (hn.symm.trans (n_hp1 (by omega) (by omega))).symm, by omega, by omega⟩) g _ _ hx (by omega) (by omega))
              · skip
                refine o_iload_n dL_oils_93 rfl ?_
                refine o_goto (tgt := 98) dL_oils_94 (by decide) ?_
                refine o_istore_n dL_oils_98 (by decide) ?_
                refine o_iload_n dL_oils_99 rfl ?_
                refine o_iload dL_oils_100 rfl ?_
                refine o_isub dL_oils_102 ?_
                refine o_istore_n dL_oils_103 (by decide) ?_
                refine o_iinc dL_oils_104 rfl (by decide) ?_
                refine o_goto (tgt := 13) dL_oils_107 (by decide) ?_
                refine o_iload dL_oils_13 rfl ?_
                refine o_if_eq (tgt := 110) dL_oils_15 (by decide) ⟨by omega, by omega⟩ (fun c_15 => ?_) (fun c_15 => absurd (by omega) c_15)
                exact o_loc [(0, .ref 0), (3, .int (o_I ((h : Int))))] rfl (J_110 ((h : Int)) (by first | (exfalso; omega) | exact ⟨by rw [if_pos (hn.symm.trans (n_hp0 (by omega)))], by omega, by omega⟩ | exact ⟨by rw [if_neg (by have := hn.symm.trans (n_hp1 (by omega) (by omega)); omega)]; exact (hn.symm.trans (n_hp1 (by omega) (by omega))).symm, by omega, by omega⟩) g _ _ hx (by omega) (by omega))
            · skip
              refine o_iconst dL_oils_80 ?_
              refine o_goto (tgt := 85) dL_oils_81 (by decide) ?_
              refine o_istore dL_oils_85 (by decide) ?_
              refine o_iload dL_oils_87 rfl ?_
              refine o_iload_n dL_oils_89 rfl ?_
              refine o_icmp_le (tgt := 97) dL_oils_90 (by decide) ⟨by omega, by omega⟩ ⟨by omega, by omega⟩ (fun c_90 => ?_) (fun c_90 => ?_)
              · skip
                refine o_iload_n dL_oils_97 rfl ?_
                refine o_istore_n dL_oils_98 (by decide) ?_
                refine o_iload_n dL_oils_99 rfl ?_
                refine o_iload dL_oils_100 rfl ?_
                refine o_isub dL_oils_102 ?_
                refine o_istore_n dL_oils_103 (by decide) ?_
                refine o_iinc dL_oils_104 rfl (by decide) ?_
                refine o_goto (tgt := 13) dL_oils_107 (by decide) ?_
                exact o_loc [(0, .ref 0), (1, .int (o_I ((o) - (nd)))), (2, .int (o_I (((h + 1 : Nat) : Int)))), (3, .int (o_I (-13))), (4, .int (o_I (1)))] rfl (ih (h + 1) ((o) - (nd)) (by omega) (by omega) (by omega) (by rw [hnD]; exact (n_hp2 (by omega) (by omega)).symm.trans hn) g _ _ hx (by omega) (by omega))
              · skip
                refine o_iload_n dL_oils_93 rfl ?_
                refine o_goto (tgt := 98) dL_oils_94 (by decide) ?_
                refine o_istore_n dL_oils_98 (by decide) ?_
                refine o_iload_n dL_oils_99 rfl ?_
                refine o_iload dL_oils_100 rfl ?_
                refine o_isub dL_oils_102 ?_
                refine o_istore_n dL_oils_103 (by decide) ?_
                refine o_iinc dL_oils_104 rfl (by decide) ?_
                refine o_goto (tgt := 13) dL_oils_107 (by decide) ?_
                exfalso; omega
        · skip
          have l1 := bl j (by omega)
          have f5 := end_cs M j
          have f6 := n_end_R hwl (j := j) (by omega)
          refine o_iload dL_oils_33 rfl ?_
          refine o_aload_n dL_oils_35 rfl ?_
          refine o_iload dL_oils_36 rfl ?_
          refine y_q _ (cl_end hl d g M P S T hx hwf j (by omega)) dL_oils_38 ml_L_231 ys_L_end rfl (by decide) (by omega) (by omega) (by omega) rfl (Nat.le_of_ble_eq_true rfl) (fun g hx => ?_)
          refine o_aload_n dL_oils_41 rfl ?_
          refine y_v _ (cv_hour hl d g M P S T hx hwf) dL_oils_42 ml_L_234 yw_X11_hour rfl (by decide) (by omega) (by omega) (by omega) (by decide) rfl rfl rfl (Nat.le_of_ble_eq_true rfl) (fun g hx => ?_)
          refine o_iload_n dL_oils_45 rfl ?_
          refine o_iadd dL_oils_46 ?_
          refine o_icmp_le (tgt := 59) dL_oils_47 (by decide) ⟨by omega, by omega⟩ ⟨by omega, by omega⟩ (fun c_47 => ?_) (fun c_47 => ?_)
          · skip
            refine o_iconst dL_oils_59 ?_
            refine o_iadd dL_oils_60 ?_
            refine o_istore dL_oils_61 (by decide) ?_
            refine o_iinc dL_oils_63 rfl (by decide) ?_
            refine o_goto (tgt := 24) dL_oils_66 (by decide) ?_
            exact o_loc [(0, .ref 0), (1, .int (o_I (o))), (2, .int (o_I ((h : Int)))), (3, .int (o_I (-13))), (4, .int (o_I (1))), (5, .int (o_I ((nd) + (0)))), (6, .int (o_I (((j + 1 : Nat) : Int))))] rfl (ih_24 (by omega) ((nd) + (0)) (by simp only [o_sm]; split <;> omega) g _ _ hx (by omega) (by omega))
          · skip
            refine o_aload_n dL_oils_50 rfl ?_
            refine o_iload dL_oils_51 rfl ?_
            refine y_v _ (cv_level hl d g M P S T hx hwf j (by omega)) dL_oils_53 ml_L_60 yw_X11_level rfl (by decide) (by omega) (by omega) (by omega) (by decide) rfl rfl rfl (Nat.le_of_ble_eq_true rfl) (fun g hx => ?_)
            refine o_goto (tgt := 60) dL_oils_56 (by decide) ?_
            refine o_iadd dL_oils_60 ?_
            refine o_istore dL_oils_61 (by decide) ?_
            refine o_iinc dL_oils_63 rfl (by decide) ?_
            refine o_goto (tgt := 24) dL_oils_66 (by decide) ?_
            exact o_loc [(0, .ref 0), (1, .int (o_I (o))), (2, .int (o_I ((h : Int)))), (3, .int (o_I (-13))), (4, .int (o_I (1))), (5, .int (o_I ((nd) + (M 4 j)))), (6, .int (o_I (((j + 1 : Nat) : Int))))] rfl (ih_24 (by omega) ((nd) + (M 4 j)) (by simp only [o_sm]; split <;> omega) g _ _ hx (by omega) (by omega)))
      exact o_loc [(0, .ref 0), (1, .int (o_I (o))), (2, .int (o_I ((h : Int)))), (3, .int (o_I (-13))), (4, .int (o_I (1))), (5, .int (o_I (0))), (6, .int (o_I (((0 : Nat) : Int))))] rfl (key_24 0 (Nat.zero_le _) (0) (rfl) g _ _ hx (by omega) (by omega))
  refine o_aload_n dL_oils_0 rfl ?_
  refine y_v _ (cv_oil hl d g M P S T hx hwf) dL_oils_1 ml_L_168 yw_X11_oil rfl (by decide) (by omega) (by omega) (by omega) (by decide) rfl rfl rfl (Nat.le_of_ble_eq_true rfl) (fun g hx => ?_)
  refine o_istore_n dL_oils_4 (by decide) ?_
  refine o_iconst dL_oils_5 ?_
  refine o_istore_n dL_oils_6 (by decide) ?_
  refine o_bipush dL_oils_7 (by decide) ?_
  refine o_istore_n dL_oils_9 (by decide) ?_
  refine o_iconst dL_oils_10 ?_
  refine o_istore dL_oils_11 (by decide) ?_
  exact o_loc [(0, .ref 0), (1, .int (o_I (M 0 2))), (2, .int (o_I (((0 : Nat) : Int)))), (3, .int (o_I (-13))), (4, .int (o_I (1)))] rfl (loop 501 0 (M 0 2) (by omega) (by omega) (by omega) hR g _ _ hx (by omega) (by omega))
