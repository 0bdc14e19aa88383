/-! the builder's texts grow -/
theorem o_sb_put {g g1 g2 : Nat → Nat → Int} {L : List Int} {c : Int} (h : o_sb g L) (hc : 0 ≤ c ∧ c < 128) {c9 : Nat} (h9 : g 190 9 = c9) (hl : L.length < c9) (e1 : g1 = o_e g 190 3 (L.length + 1 : Nat)) (e2 : g2 = o_e g1 191 L.length c) : o_sb g2 (L ++ [c]) := by
  obtain ⟨h1, ⟨c1, h2, h3, h4, h5⟩, h6, h7⟩ := h
  have e : c1 = c9 := by omega
  subst e
  have k : ∀ j, j ≠ 3 → g2 190 j = g 190 j := fun j hj => by rw [e2, o_e_n (by decide), e1, o_e_k hj]
  refine ⟨by rw [k 1 (by decide)]; exact h1, ⟨c1, by rw [k 9 (by decide)]; exact h2, h3, by rw [List.length_append]; exact hl, fun j hj => ?_⟩, by rw [e2, o_e_n (by decide), e1, o_e_s, List.length_append]; rfl, fun j hj => ?_⟩
  · rw [e2]
    by_cases q : j = L.length
    · rw [q, o_e_s]; exact hc
    · rw [o_e_k q, e1, o_e_n (by decide)]; exact h5 j hj
  · rw [o_getD_app hj, e2]
    rw [List.length_append] at hj
    have hj : j < L.length + 1 := hj
    by_cases q : j = L.length
    · rw [if_pos q, q, o_e_s]
    · rw [if_neg q, o_e_k q, e1, o_e_n (by decide)]; exact h7 j (by omega)
set_option maxRecDepth 100000 in
set_option maxHeartbeats 4000000 in
/-- append(c) -/
theorem ct_J5_append_3fe6f {l : Launch} (hl : l.stackTraces = false) (d : Nat) (g : Nat → Nat → Int) (L : List Int) (hsb : o_sb g L) (hL : L.length ≤ 108) (c : Int) (hc : 0 ≤ c ∧ c < 128) : o_Ct l yJ5_append_3fe6f wJ5_append_3fe6f (d + 4) o_a1 [.ref 190, .int (o_I c)] o_N (o_mem g) 1 220 (o_mt (some (.ref 190)) (fun g' => o_sb g' (L ++ [c]) ∧ o_fr o_cB g g')) := by
  refine o_Ct.ofV hl mJ5_append_3fe6f (by decide +kernel) rfl rfl rfl (Nat.le_of_ble_eq_true rfl) ?_
  have h190 := hsb.2.2.1
  refine o_aload_n dJ5_append_3fe6f_0 rfl ?_
  refine o_aload_n dJ5_append_3fe6f_1 rfl ?_
  refine o_gf dJ5_append_3fe6f_2 fl_J5_79 rfl (by decide) rfl ?_
  refine o_iconst dJ5_append_3fe6f_5 ?_
  refine o_iadd dJ5_append_3fe6f_6 ?_
  refine o_cVa RJ4 [.int (o_I (g 190 3 + 1))] (ct_J5_ensureCapacityInternal_d00df hl d g L hsb (g 190 3 + 1) ⟨by omega, by omega⟩) dJ5_append_3fe6f_7 ml_J5_100 yW_ens rfl (by decide) (by omega) (by omega) (by omega) (o_recW (by decide) rfl rfl) rfl (Nat.le_of_ble_eq_true rfl) rfl rfl (fun g_7 q_7 => ?_)
  obtain ⟨hsb1, f1, c1, hc1, hq1⟩ := q_7
  have e191 : o_mem g_7 191 = .inl (3, c1, .inl (fun j => o_I (g_7 191 j))) := by rw [o_m191, hc1, Int.toNat_natCast]
  obtain ⟨a1, ⟨c2, a2, a3, a4, a5⟩, a6, a7⟩ := id hsb1
  refine o_aload_n dJ5_append_3fe6f_10 rfl ?_
  refine o_cG RJ4 _ (ct_J5_isLatin1_aae02 hl d g_7 hsb1.1) dJ5_append_3fe6f_11 ml_J5_83 yW_isL rfl (by decide) (by omega) (o_recW (by decide) rfl rfl) rfl (Nat.le_of_ble_eq_true rfl) ?_
  refine o_if_eq (tgt := 45) dJ5_append_3fe6f_14 (by decide) ⟨by omega, by omega⟩ (fun c => absurd c (by decide)) (fun _ => ?_)
  refine o_iload_n dJ5_append_3fe6f_17 rfl ?_
  refine o_cS _ (ct_J1_canEncode_fc78d hl d o_N (o_mem g_7) c hc) dJ5_append_3fe6f_18 ml_J5_191 ys_J1_canEncode_fc78d rfl (by decide) (by omega) rfl (Nat.le_of_ble_eq_true rfl) ?_
  refine o_if_eq (tgt := 45) dJ5_append_3fe6f_21 (by decide) ⟨by omega, by omega⟩ (fun c => absurd c (by decide)) (fun _ => ?_)
  refine o_aload_n dJ5_append_3fe6f_24 rfl ?_
  refine o_gf dJ5_append_3fe6f_25 fl_J5_15 rfl (by decide) rfl ?_
  refine o_aload_n dJ5_append_3fe6f_28 rfl ?_
  refine o_dup dJ5_append_3fe6f_29 rfl ?_
  refine o_gf dJ5_append_3fe6f_30 fl_J5_79 rfl (by decide) rfl ?_
  refine o_dup_x1 dJ5_append_3fe6f_33 rfl rfl ?_
  refine o_iconst dJ5_append_3fe6f_34 ?_
  refine o_iadd dJ5_append_3fe6f_35 ?_
  refine o_pmE dJ5_append_3fe6f_36 fp_J5_79 rfl (by decide) (Nat.le_of_ble_eq_true rfl) rfl rfl (fun _ => rfl) (by decide) (fun g_36 e_36 => ?_)
  rw [a6]
  rw [show g_7 190 3 + 1 = ((L.length + 1 : Nat) : Int) by omega] at e_36
  refine o_iload_n dJ5_append_3fe6f_39 rfl ?_
  refine o_i2b dJ5_append_3fe6f_40 ?_
  rw [o_i2bN c hc.1 hc.2]
  refine o_baE (len := c1) dJ5_append_3fe6f_41 (by rw [o_m191, e_36, o_e_k (by decide), hc1, Int.toNat_natCast]) (by decide) (by omega) (by omega) (by omega) hc.1 hc.2 (fun _ => by show _ = Sum.inl (3, (g_36 190 9).toNat, _); rw [e_36, o_e_k (by decide), hc1, Int.toNat_natCast]) (by decide) (fun g_41 e_41 => ?_)
  refine o_goto (tgt := 75) dJ5_append_3fe6f_42 (by decide) ?_
  refine o_aload_n dJ5_append_3fe6f_75 rfl ?_
  refine o_ret1 dJ5_append_3fe6f_76 (Or.inr ⟨_, rfl⟩) ?_
  rw [Int.toNat_natCast] at e_41
  exact ⟨rfl, rfl, g_41, rfl, o_sb_put hsb1 hc hc1 (by omega) e_36 e_41, o_fr_t f1 (fun a ha => by rw [e_41, o_e_n (fun z => ha (Or.inr z)), e_36, o_e_n (fun z => ha (Or.inl z))])⟩
set_option maxRecDepth 100000 in
set_option maxHeartbeats 4000000 in
/-- append(c) -/
theorem ct_J4_append_cf468 {l : Launch} (hl : l.stackTraces = false) (d : Nat) (g : Nat → Nat → Int) (L : List Int) (hsb : o_sb g L) (hL : L.length ≤ 108) (c : Int) (hc : 0 ≤ c ∧ c < 128) : o_Ct l yJ4_append_cf468 wJ4_append_cf468 (d + 5) o_a1 [.ref 190, .int (o_I c)] o_N (o_mem g) 1 220 (o_mt (some (.ref 190)) (fun g' => o_sb g' (L ++ [c]) ∧ o_fr o_cB g g')) := by
  refine o_Ct.ofV hl mJ4_append_cf468 (by decide +kernel) rfl rfl rfl (Nat.le_of_ble_eq_true rfl) ?_
  refine o_aload_n dJ4_append_cf468_0 rfl ?_
  refine o_iload_n dJ4_append_cf468_1 rfl ?_
  refine o_cSUa [.int (o_I c)] (ct_J5_append_3fe6f hl d g L hsb hL c hc) dJ4_append_cf468_2 (List.forall_mem_cons.mpr ⟨(o_gT (i := 1360) (by decide +kernel) rfl), List.forall_mem_cons.mpr ⟨(o_gT (i := 1567) (by decide +kernel) rfl), List.forall_mem_cons.mpr ⟨(o_gT (i := 305) (by decide +kernel) rfl), List.forall_mem_cons.mpr ⟨(o_gT (i := 1361) (by decide +kernel) rfl), List.forall_mem_cons.mpr ⟨(o_gT (i := 13) (by decide +kernel) rfl), fun _ h => absurd h List.not_mem_nil⟩⟩⟩⟩⟩) (o_gT (i := 1362) (by decide +kernel) rfl) ⟨by decide, (show Option.map (fun d => d.parameters.length) (parseMethodDescriptor yJ5_append_3fe6f.desc) = some 1 by decide)⟩ (by decide) (by omega) (Nat.le_refl _) (Nat.le_refl _) (by decide) rfl rfl rfl (Nat.le_of_ble_eq_true rfl) rfl rfl (fun g_2 q_2 => ?_)
  refine o_pop dJ4_append_cf468_5 rfl ?_
  refine o_aload_n dJ4_append_cf468_6 rfl ?_
  refine o_ret1 dJ4_append_cf468_7 (Or.inr ⟨_, rfl⟩) ?_
  exact ⟨rfl, rfl, _, rfl, q_2⟩
set_option maxRecDepth 100000 in
set_option maxHeartbeats 4000000 in
/-- length() -/
theorem ct_J5_length_8abf5 {l : Launch} (hl : l.stackTraces = false) (d : Nat) (g : Nat → Nat → Int) (L : List Int) (hsb : o_sb g L) : o_Ct l yJ5_length_8abf5 wJ5_length_8abf5 (d + 1) o_no [.ref 190] o_N (o_mem g) 0 0 (o_is (some (.int (o_I (L.length : Int)))) o_N (o_mem g)) := by
  refine o_Ct.ofV hl mJ5_length_8abf5 (by decide +kernel) rfl rfl rfl (Nat.le_of_ble_eq_true rfl) ?_
  refine o_aload_n dJ5_length_8abf5_0 rfl ?_
  refine o_gf dJ5_length_8abf5_1 fl_J5_79 rfl (by decide) rfl ?_
  rw [hsb.2.2.1]
  refine o_ret1 dJ5_length_8abf5_4 trivial ?_
  exact ⟨rfl, rfl, rfl⟩
set_option maxRecDepth 100000 in
set_option maxHeartbeats 4000000 in
/-- length() -/
theorem ct_J4_length_8abf5 {l : Launch} (hl : l.stackTraces = false) (d : Nat) (g : Nat → Nat → Int) (L : List Int) (hsb : o_sb g L) : o_Ct l yJ4_length_8abf5 wJ4_length_8abf5 (d + 2) o_no [.ref 190] o_N (o_mem g) 0 0 (o_is (some (.int (o_I (L.length : Int)))) o_N (o_mem g)) := by
  refine o_Ct.ofV hl mJ4_length_8abf5 (by decide +kernel) rfl rfl rfl (Nat.le_of_ble_eq_true rfl) ?_
  refine o_aload_n dJ4_length_8abf5_0 rfl ?_
  refine o_cSU [] (ct_J5_length_8abf5 hl d g L hsb) dJ4_length_8abf5_1 (List.forall_mem_cons.mpr ⟨(o_gT (i := 1256) (by decide +kernel) rfl), List.forall_mem_cons.mpr ⟨(o_gT (i := 1252) (by decide +kernel) rfl), List.forall_mem_cons.mpr ⟨(o_gT (i := 305) (by decide +kernel) rfl), List.forall_mem_cons.mpr ⟨(o_gT (i := 1251) (by decide +kernel) rfl), List.forall_mem_cons.mpr ⟨(o_gT (i := 13) (by decide +kernel) rfl), fun _ h => absurd h List.not_mem_nil⟩⟩⟩⟩⟩) (o_gT (i := 1257) (by decide +kernel) rfl) ⟨by decide, by decide⟩ (by decide) (by omega) (by decide) rfl rfl rfl (Nat.le_of_ble_eq_true rfl) ?_
  refine o_ret1 dJ4_length_8abf5_4 trivial ?_
  exact ⟨rfl, rfl, rfl⟩
set_option maxRecDepth 100000 in
set_option maxHeartbeats 4000000 in
/-- charAt(i) -/
theorem ct_J5_charAt_5068e {l : Launch} (hl : l.stackTraces = false) (d : Nat) (g : Nat → Nat → Int) (L : List Int) (hsb : o_sb g L) (i : Int) (hi : 0 ≤ i ∧ i < L.length) : o_Ct l yJ5_charAt_5068e wJ5_charAt_5068e (d + 3) o_no [.ref 190, .int (o_I i)] o_N (o_mem g) 0 0 (o_is (some (.int (o_I (L.getD i.toNat 0)))) o_N (o_mem g)) := by
  refine o_Ct.ofV hl mJ5_charAt_5068e (by decide +kernel) rfl rfl rfl (Nat.le_of_ble_eq_true rfl) ?_
  obtain ⟨h1, ⟨c, hc, hc2, hc3, hc4⟩, hc5, hc6⟩ := id hsb
  have e191 : o_mem g 191 = .inl (3, c, .inl (fun j => o_I (g 191 j))) := by rw [o_m191, hc, Int.toNat_natCast]
  have hx := hc4 i.toNat (by omega)
  refine o_aload_n dJ5_charAt_5068e_0 rfl ?_
  refine o_gf dJ5_charAt_5068e_1 fl_J5_22 rfl (by decide) rfl ?_
  rw [h1]
  refine o_istore_n dJ5_charAt_5068e_4 (by decide) ?_
  refine o_aload_n dJ5_charAt_5068e_5 rfl ?_
  refine o_gf dJ5_charAt_5068e_6 fl_J5_15 rfl (by decide) rfl ?_
  refine o_astore_n dJ5_charAt_5068e_9 (by decide) ?_
  refine o_aload_n dJ5_charAt_5068e_10 rfl ?_
  refine o_gf dJ5_charAt_5068e_11 fl_J5_79 rfl (by decide) rfl ?_
  rw [hc5]
  refine o_aload_n dJ5_charAt_5068e_14 rfl ?_
  refine o_alenN dJ5_charAt_5068e_15 (by decide) e191 rfl ?_
  refine o_iload_n dJ5_charAt_5068e_16 rfl ?_
  refine o_ishr dJ5_charAt_5068e_17 ?_
  rw [o_shr0]
  refine o_mmin dJ5_charAt_5068e_18 ml_J5_138 o_minS.1 o_minS.2.1 o_minS.2.2 ⟨by omega, by omega⟩ ⟨by omega, by omega⟩ (Nat.le_of_ble_eq_true rfl) ?_
  rw [show min (L.length : Int) (c : Int) = L.length by omega]
  refine o_istore dJ5_charAt_5068e_21 (by decide) ?_
  refine o_iload_n dJ5_charAt_5068e_23 rfl ?_
  refine o_iload dJ5_charAt_5068e_24 rfl ?_
  refine o_cS _ (ct_J0_checkIndex_df160 hl d o_N (o_mem g) i L.length hi (by omega)) dJ5_charAt_5068e_26 ml_J5_144 ys_J0_checkIndex_df160 rfl (by decide) (by omega) rfl (Nat.le_of_ble_eq_true rfl) ?_
  refine o_iload_n dJ5_charAt_5068e_29 rfl ?_
  skip
  refine o_if_ne (tgt := 42) dJ5_charAt_5068e_30 (by decide) ⟨by omega, by omega⟩ (fun c => absurd rfl c) (fun _ => ?_)
  refine o_aload_n dJ5_charAt_5068e_33 rfl ?_
  refine o_iload_n dJ5_charAt_5068e_34 rfl ?_
  refine o_bald dJ5_charAt_5068e_35 (by decide) e191 (by omega) hi.1 (by omega) ?_
  refine o_sipush dJ5_charAt_5068e_36 (by decide) ?_
  refine o_iand dJ5_charAt_5068e_39 ?_
  rw [o_an _ hx.1 hx.2]
  refine o_i2c dJ5_charAt_5068e_40 ?_
  rw [o_i2cN _ hx.1 hx.2]
  refine o_ret1 dJ5_charAt_5068e_41 (by first | exact o_rcN _ (by omega) (by omega)) ?_
  exact ⟨by rw [hc6 i.toNat (by omega)], rfl, rfl⟩
set_option maxRecDepth 100000 in
set_option maxHeartbeats 4000000 in
/-- charAt(i) -/
theorem ct_J4_charAt_5068e {l : Launch} (hl : l.stackTraces = false) (d : Nat) (g : Nat → Nat → Int) (L : List Int) (hsb : o_sb g L) (i : Int) (hi : 0 ≤ i ∧ i < L.length) : o_Ct l yJ4_charAt_5068e wJ4_charAt_5068e (d + 4) o_no [.ref 190, .int (o_I i)] o_N (o_mem g) 0 0 (o_is (some (.int (o_I (L.getD i.toNat 0)))) o_N (o_mem g)) := by
  refine o_Ct.ofV hl mJ4_charAt_5068e (by decide +kernel) rfl rfl rfl (Nat.le_of_ble_eq_true rfl) ?_
  refine o_aload_n dJ4_charAt_5068e_0 rfl ?_
  refine o_iload_n dJ4_charAt_5068e_1 rfl ?_
  refine o_cSU [.int (o_I i)] (ct_J5_charAt_5068e hl d g L hsb i hi) dJ4_charAt_5068e_2 (List.forall_mem_cons.mpr ⟨(o_gT (i := 1401) (by decide +kernel) rfl), List.forall_mem_cons.mpr ⟨(o_gT (i := 1569) (by decide +kernel) rfl), List.forall_mem_cons.mpr ⟨(o_gT (i := 305) (by decide +kernel) rfl), List.forall_mem_cons.mpr ⟨(o_gT (i := 1402) (by decide +kernel) rfl), List.forall_mem_cons.mpr ⟨(o_gT (i := 13) (by decide +kernel) rfl), fun _ h => absurd h List.not_mem_nil⟩⟩⟩⟩⟩) (o_gT (i := 1403) (by decide +kernel) rfl) ⟨by decide, (show Option.map (fun d => d.parameters.length) (parseMethodDescriptor yJ5_charAt_5068e.desc) = some 1 by decide)⟩ (by decide) (by omega) (by decide) rfl rfl rfl (Nat.le_of_ble_eq_true rfl) ?_
  refine o_ret1 dJ4_charAt_5068e_5 (by have hx := (id hsb).2.2.2 i.toNat (by omega); obtain ⟨c, hc, hc2, hc3, hc4⟩ := hsb.2.1; have hy := hc4 i.toNat (by omega); exact o_rcN _ (by omega) (by omega)) ?_
  exact ⟨rfl, rfl, rfl⟩
set_option maxRecDepth 100000 in
set_option maxHeartbeats 4000000 in
/-- setLength(0) -/
theorem ct_J5_setLength_d00df {l : Launch} (hl : l.stackTraces = false) (d : Nat) (g : Nat → Nat → Int) (L : List Int) (hsb : o_sb g L) : o_Ct l yJ5_setLength_d00df wJ5_setLength_d00df (d + 4) o_a1 [.ref 190, .int (o_I 0)] o_N (o_mem g) 1 220 (o_mt none (fun g' => o_sb g' [] ∧ o_fr o_cB g g')) := by
  refine o_Ct.ofV hl mJ5_setLength_d00df (by decide +kernel) rfl rfl rfl (Nat.le_of_ble_eq_true rfl) ?_
  refine o_iload_n dJ5_setLength_d00df_0 rfl ?_
  refine o_if_ge (tgt := 13) dJ5_setLength_d00df_1 (by decide) ⟨by omega, by omega⟩ (fun _ => ?_) (fun c => absurd (by decide) c)
  refine o_aload_n dJ5_setLength_d00df_13 rfl ?_
  refine o_iload_n dJ5_setLength_d00df_14 rfl ?_
  refine o_cVa RJ4 [.int (o_I (0))] (ct_J5_ensureCapacityInternal_d00df hl d g L hsb (0) ⟨by decide, by decide⟩) dJ5_setLength_d00df_15 ml_J5_100 yW_ens rfl (by decide) (by omega) (by omega) (by omega) (o_recW (by decide) rfl rfl) rfl (Nat.le_of_ble_eq_true rfl) rfl rfl (fun g_15 q_15 => ?_)
  obtain ⟨hsb1, f1, c1, hc1, hq1⟩ := q_15
  obtain ⟨a1, ⟨c2, a2, a3, a4, a5⟩, a6, a7⟩ := id hsb1
  refine o_aload_n dJ5_setLength_d00df_18 rfl ?_
  refine o_gf dJ5_setLength_d00df_19 fl_J5_79 rfl (by decide) rfl ?_
  rw [a6]
  refine o_iload_n dJ5_setLength_d00df_22 rfl ?_
  refine o_icmp_ge (tgt := 63) dJ5_setLength_d00df_23 (by decide) ⟨by omega, by omega⟩ ⟨by omega, by omega⟩ (fun c_23 => ?_) (fun c_23 => ?_)
  · skip
    refine o_aload_n dJ5_setLength_d00df_63 rfl ?_
    refine o_gf dJ5_setLength_d00df_64 fl_J5_79 rfl (by decide) rfl ?_
    rw [a6]
    refine o_iload_n dJ5_setLength_d00df_67 rfl ?_
    refine o_icmp_le (tgt := 76) dJ5_setLength_d00df_68 (by decide) ⟨by omega, by omega⟩ ⟨by omega, by omega⟩ (fun c_68 => ?_) (fun c_68 => ?_)
    · skip
      refine o_aload_n dJ5_setLength_d00df_76 rfl ?_
      refine o_iload_n dJ5_setLength_d00df_77 rfl ?_
      refine o_pmE dJ5_setLength_d00df_78 fp_J5_79 rfl (by decide) (Nat.le_of_ble_eq_true rfl) rfl rfl (fun _ => rfl) (by decide) (fun g_78 e_78 => ?_)
      refine o_ret0 dJ5_setLength_d00df_81 trivial ?_
      exact o_mt0 ⟨⟨by rw [e_78, o_e_k (by decide)]; exact a1, ⟨c2, by rw [e_78, o_e_k (by decide)]; exact a2, a3, Nat.zero_le _, fun j hj => by rw [e_78, o_e_n (by decide)]; exact a5 j hj⟩, by rw [e_78, o_e_s]; rfl, fun j hj => absurd hj (Nat.not_lt_zero j)⟩, o_fr_t f1 (fun a ha => by rw [e_78, o_e_n (fun z => ha (Or.inl z))])⟩
    · skip
      refine o_aload_n dJ5_setLength_d00df_71 rfl ?_
      refine o_iconst dJ5_setLength_d00df_72 ?_
      refine o_pmE dJ5_setLength_d00df_73 fp_J5_73 rfl (by decide) (Nat.le_of_ble_eq_true rfl) rfl rfl (fun _ => rfl) (by decide) (fun g_73 e_73 => ?_)
      refine o_aload_n dJ5_setLength_d00df_76 rfl ?_
      refine o_iload_n dJ5_setLength_d00df_77 rfl ?_
      refine o_pmE dJ5_setLength_d00df_78 fp_J5_79 rfl (by decide) (Nat.le_of_ble_eq_true rfl) rfl rfl (fun _ => rfl) (by decide) (fun g_78 e_78 => ?_)
      refine o_ret0 dJ5_setLength_d00df_81 trivial ?_
      exact o_mt0 ⟨⟨by rw [e_78, o_e_k (by decide), e_73, o_e_k (by decide)]; exact a1, ⟨c2, by rw [e_78, o_e_k (by decide), e_73, o_e_k (by decide)]; exact a2, a3, Nat.zero_le _, fun j hj => by rw [e_78, o_e_n (by decide), e_73, o_e_n (by decide)]; exact a5 j hj⟩, by rw [e_78, o_e_s]; rfl, fun j hj => absurd hj (Nat.not_lt_zero j)⟩, o_fr_t f1 (fun a ha => by rw [e_78, o_e_n (fun z => ha (Or.inl z)), e_73, o_e_n (fun z => ha (Or.inl z))])⟩
  · skip
    exfalso
    omega
set_option maxRecDepth 100000 in
set_option maxHeartbeats 4000000 in
/-- setLength(0) -/
theorem ct_J4_setLength_d00df {l : Launch} (hl : l.stackTraces = false) (d : Nat) (g : Nat → Nat → Int) (L : List Int) (hsb : o_sb g L) : o_Ct l yJ4_setLength_d00df wJ4_setLength_d00df (d + 5) o_a1 [.ref 190, .int (o_I 0)] o_N (o_mem g) 1 220 (o_mt none (fun g' => o_sb g' [] ∧ o_fr o_cB g g')) := by
  refine o_Ct.ofV hl mJ4_setLength_d00df (by decide +kernel) rfl rfl rfl (Nat.le_of_ble_eq_true rfl) ?_
  refine o_aload_n dJ4_setLength_d00df_0 rfl ?_
  refine o_iload_n dJ4_setLength_d00df_1 rfl ?_
  refine o_cSUa [.int (o_I 0)] (ct_J5_setLength_d00df hl d g L hsb) dJ4_setLength_d00df_2 (List.forall_mem_cons.mpr ⟨(o_gT (i := 1308) (by decide +kernel) rfl), List.forall_mem_cons.mpr ⟨(o_gT (i := 1566) (by decide +kernel) rfl), List.forall_mem_cons.mpr ⟨(o_gT (i := 305) (by decide +kernel) rfl), List.forall_mem_cons.mpr ⟨(o_gT (i := 1309) (by decide +kernel) rfl), List.forall_mem_cons.mpr ⟨(o_gT (i := 13) (by decide +kernel) rfl), fun _ h => absurd h List.not_mem_nil⟩⟩⟩⟩⟩) (o_gT (i := 1310) (by decide +kernel) rfl) ⟨by decide, by decide⟩ (by decide) (by omega) (Nat.le_refl _) (Nat.le_refl _) (by decide) rfl rfl rfl (Nat.le_of_ble_eq_true rfl) rfl rfl (fun g_2 q_2 => ?_)
  refine o_ret0 dJ4_setLength_d00df_5 trivial ?_
  exact o_mt0 q_2
theorem t_nf_lenE : ∀ (k f v : Nat), 10 ^ k ≤ v → v < 10 ^ (k + 1) → k + 1 ≤ f → (t_nf f v).length = k + 1
  | 0, f, v => fun h1 h2 h3 => by
    obtain ⟨f1, rfl⟩ : ∃ f1, f = f1 + 1 := ⟨f - 1, by omega⟩
    unfold t_nf
    rw [if_neg (by omega)]; rfl
  | k + 1, f, v => fun h1 h2 h3 => by
    obtain ⟨f1, rfl⟩ : ∃ f1, f = f1 + 1 := ⟨f - 1, by omega⟩
    have p : 1 ≤ 10 ^ k := Nat.pos_of_ne_zero (by intro z; have := Nat.pow_eq_zero.mp z; omega)
    have e1 : 10 ^ (k + 1) = 10 ^ k * 10 := Nat.pow_succ ..
    have e2 : 10 ^ (k + 1 + 1) = 10 ^ (k + 1) * 10 := Nat.pow_succ ..
    unfold t_nf
    rw [if_pos (by omega), List.length_append, t_nf_lenE k f1 (v / 10) (by omega) (by omega) (by omega)]; rfl
theorem t_nf_len1 {f v : Nat} (h : v < 10) : (t_nf (f + 1) v).length = 1 := by
  unfold t_nf
  rw [if_neg (by omega)]; rfl
set_option maxRecDepth 100000 in
set_option maxHeartbeats 4000000 in
/-- stringSize(v) -/
theorem ct_J6_stringSize_0f7a4 {l : Launch} (hl : l.stackTraces = false) (d : Nat) (n : Nat) (h : Nat → o_C) (v : Nat) (hv : v < 10000000) : o_Ct l yJ6_stringSize_0f7a4 wJ6_stringSize_0f7a4 (d + 1) o_no [.int (o_I (v : Int))] n (h) 0 0 (o_is (some (.int (o_I ((t_nf 8 v).length : Int)))) n h) := by
  refine o_Ct.ofV hl mJ6_stringSize_0f7a4 (by decide +kernel) rfl rfl rfl (Nat.le_of_ble_eq_true rfl) ?_
  refine o_iconst dJ6_stringSize_0f7a4_0 ?_
  refine o_istore_n dJ6_stringSize_0f7a4_1 (by decide) ?_
  refine o_iload_n dJ6_stringSize_0f7a4_2 rfl ?_
  refine o_if_lt (tgt := 11) dJ6_stringSize_0f7a4_3 (by decide) ⟨by omega, by omega⟩ (fun c => absurd c (by omega)) (fun _ => ?_)
  refine o_iconst dJ6_stringSize_0f7a4_6 ?_
  refine o_istore_n dJ6_stringSize_0f7a4_7 (by decide) ?_
  refine o_iload_n dJ6_stringSize_0f7a4_8 rfl ?_
  refine o_ineg dJ6_stringSize_0f7a4_9 ?_
  refine o_istore_n dJ6_stringSize_0f7a4_10 (by decide) ?_
  refine o_bipush dJ6_stringSize_0f7a4_11 (by decide) ?_
  refine o_istore_n dJ6_stringSize_0f7a4_13 (by decide) ?_
  refine o_iconst dJ6_stringSize_0f7a4_14 ?_
  refine o_istore_n dJ6_stringSize_0f7a4_15 (by decide) ?_
  refine o_loc [(0, .int (o_I (-(v : Int)))), (1, .int (o_I 0)), (2, .int (o_I (-10))), (3, .int (o_I 1))] rfl ?_
  refine o_iload_n dJ6_stringSize_0f7a4_16 rfl ?_
  refine o_bipush dJ6_stringSize_0f7a4_17 (by decide) ?_
  refine o_icmp_ge (tgt := 42) dJ6_stringSize_0f7a4_19 (by decide) ⟨by decide, by decide⟩ ⟨by decide, by decide⟩ (fun c => absurd c (by decide)) (fun _ => ?_)
  refine o_iload_n dJ6_stringSize_0f7a4_22 rfl ?_
  refine o_iload_n dJ6_stringSize_0f7a4_23 rfl ?_
  refine o_icmp_le (tgt := 31) dJ6_stringSize_0f7a4_24 (by decide) ⟨by omega, by omega⟩ ⟨by omega, by omega⟩ (fun c_1 => ?_) (fun c_1 => ?_)
  rotate_left
  · refine o_iload_n dJ6_stringSize_0f7a4_27 rfl ?_
    refine o_iload_n dJ6_stringSize_0f7a4_28 rfl ?_
    refine o_iadd dJ6_stringSize_0f7a4_29 ?_
    refine o_ret1 dJ6_stringSize_0f7a4_30 trivial ?_
    exact ⟨by rw [show (t_nf 8 v).length = 1 from t_nf_len1 (by omega)]; rfl, rfl, rfl⟩
  refine o_bipush dJ6_stringSize_0f7a4_31 (by decide) ?_
  refine o_iload_n dJ6_stringSize_0f7a4_33 rfl ?_
  refine o_imul dJ6_stringSize_0f7a4_34 ?_
  refine o_istore_n dJ6_stringSize_0f7a4_35 (by decide) ?_
  refine o_iinc dJ6_stringSize_0f7a4_36 rfl (by decide) ?_
  refine o_goto (tgt := 16) dJ6_stringSize_0f7a4_39 (by decide) ?_
  refine o_loc [(0, .int (o_I (-(v : Int)))), (1, .int (o_I 0)), (2, .int (o_I (-100))), (3, .int (o_I 2))] rfl ?_
  refine o_iload_n dJ6_stringSize_0f7a4_16 rfl ?_
  refine o_bipush dJ6_stringSize_0f7a4_17 (by decide) ?_
  refine o_icmp_ge (tgt := 42) dJ6_stringSize_0f7a4_19 (by decide) ⟨by decide, by decide⟩ ⟨by decide, by decide⟩ (fun c => absurd c (by decide)) (fun _ => ?_)
  refine o_iload_n dJ6_stringSize_0f7a4_22 rfl ?_
  refine o_iload_n dJ6_stringSize_0f7a4_23 rfl ?_
  refine o_icmp_le (tgt := 31) dJ6_stringSize_0f7a4_24 (by decide) ⟨by omega, by omega⟩ ⟨by omega, by omega⟩ (fun c_2 => ?_) (fun c_2 => ?_)
  rotate_left
  · refine o_iload_n dJ6_stringSize_0f7a4_27 rfl ?_
    refine o_iload_n dJ6_stringSize_0f7a4_28 rfl ?_
    refine o_iadd dJ6_stringSize_0f7a4_29 ?_
    refine o_ret1 dJ6_stringSize_0f7a4_30 trivial ?_
    exact ⟨by rw [show (t_nf 8 v).length = 2 from t_nf_lenE 1 8 v (by rw [show (10 : Nat) ^ 1 = 10 by decide]; omega) (by rw [show (10 : Nat) ^ (1 + 1) = 100 by decide]; omega) (by decide)]; rfl, rfl, rfl⟩
  refine o_bipush dJ6_stringSize_0f7a4_31 (by decide) ?_
  refine o_iload_n dJ6_stringSize_0f7a4_33 rfl ?_
  refine o_imul dJ6_stringSize_0f7a4_34 ?_
  refine o_istore_n dJ6_stringSize_0f7a4_35 (by decide) ?_
  refine o_iinc dJ6_stringSize_0f7a4_36 rfl (by decide) ?_
  refine o_goto (tgt := 16) dJ6_stringSize_0f7a4_39 (by decide) ?_
  refine o_loc [(0, .int (o_I (-(v : Int)))), (1, .int (o_I 0)), (2, .int (o_I (-1000))), (3, .int (o_I 3))] rfl ?_
  refine o_iload_n dJ6_stringSize_0f7a4_16 rfl ?_
  refine o_bipush dJ6_stringSize_0f7a4_17 (by decide) ?_
  refine o_icmp_ge (tgt := 42) dJ6_stringSize_0f7a4_19 (by decide) ⟨by decide, by decide⟩ ⟨by decide, by decide⟩ (fun c => absurd c (by decide)) (fun _ => ?_)
  refine o_iload_n dJ6_stringSize_0f7a4_22 rfl ?_
  refine o_iload_n dJ6_stringSize_0f7a4_23 rfl ?_
  refine o_icmp_le (tgt := 31) dJ6_stringSize_0f7a4_24 (by decide) ⟨by omega, by omega⟩ ⟨by omega, by omega⟩ (fun c_3 => ?_) (fun c_3 => ?_)
  rotate_left
  · refine o_iload_n dJ6_stringSize_0f7a4_27 rfl ?_
    refine o_iload_n dJ6_stringSize_0f7a4_28 rfl ?_
    refine o_iadd dJ6_stringSize_0f7a4_29 ?_
    refine o_ret1 dJ6_stringSize_0f7a4_30 trivial ?_
    exact ⟨by rw [show (t_nf 8 v).length = 3 from t_nf_lenE 2 8 v (by rw [show (10 : Nat) ^ 2 = 100 by decide]; omega) (by rw [show (10 : Nat) ^ (2 + 1) = 1000 by decide]; omega) (by decide)]; rfl, rfl, rfl⟩
  refine o_bipush dJ6_stringSize_0f7a4_31 (by decide) ?_
  refine o_iload_n dJ6_stringSize_0f7a4_33 rfl ?_
  refine o_imul dJ6_stringSize_0f7a4_34 ?_
  refine o_istore_n dJ6_stringSize_0f7a4_35 (by decide) ?_
  refine o_iinc dJ6_stringSize_0f7a4_36 rfl (by decide) ?_
  refine o_goto (tgt := 16) dJ6_stringSize_0f7a4_39 (by decide) ?_
  refine o_loc [(0, .int (o_I (-(v : Int)))), (1, .int (o_I 0)), (2, .int (o_I (-10000))), (3, .int (o_I 4))] rfl ?_
  refine o_iload_n dJ6_stringSize_0f7a4_16 rfl ?_
  refine o_bipush dJ6_stringSize_0f7a4_17 (by decide) ?_
  refine o_icmp_ge (tgt := 42) dJ6_stringSize_0f7a4_19 (by decide) ⟨by decide, by decide⟩ ⟨by decide, by decide⟩ (fun c => absurd c (by decide)) (fun _ => ?_)
  refine o_iload_n dJ6_stringSize_0f7a4_22 rfl ?_
  refine o_iload_n dJ6_stringSize_0f7a4_23 rfl ?_
  refine o_icmp_le (tgt := 31) dJ6_stringSize_0f7a4_24 (by decide) ⟨by omega, by omega⟩ ⟨by omega, by omega⟩ (fun c_4 => ?_) (fun c_4 => ?_)
  rotate_left
  · refine o_iload_n dJ6_stringSize_0f7a4_27 rfl ?_
    refine o_iload_n dJ6_stringSize_0f7a4_28 rfl ?_
    refine o_iadd dJ6_stringSize_0f7a4_29 ?_
    refine o_ret1 dJ6_stringSize_0f7a4_30 trivial ?_
    exact ⟨by rw [show (t_nf 8 v).length = 4 from t_nf_lenE 3 8 v (by rw [show (10 : Nat) ^ 3 = 1000 by decide]; omega) (by rw [show (10 : Nat) ^ (3 + 1) = 10000 by decide]; omega) (by decide)]; rfl, rfl, rfl⟩
  refine o_bipush dJ6_stringSize_0f7a4_31 (by decide) ?_
  refine o_iload_n dJ6_stringSize_0f7a4_33 rfl ?_
  refine o_imul dJ6_stringSize_0f7a4_34 ?_
  refine o_istore_n dJ6_stringSize_0f7a4_35 (by decide) ?_
  refine o_iinc dJ6_stringSize_0f7a4_36 rfl (by decide) ?_
  refine o_goto (tgt := 16) dJ6_stringSize_0f7a4_39 (by decide) ?_
  refine o_loc [(0, .int (o_I (-(v : Int)))), (1, .int (o_I 0)), (2, .int (o_I (-100000))), (3, .int (o_I 5))] rfl ?_
  refine o_iload_n dJ6_stringSize_0f7a4_16 rfl ?_
  refine o_bipush dJ6_stringSize_0f7a4_17 (by decide) ?_
  refine o_icmp_ge (tgt := 42) dJ6_stringSize_0f7a4_19 (by decide) ⟨by decide, by decide⟩ ⟨by decide, by decide⟩ (fun c => absurd c (by decide)) (fun _ => ?_)
  refine o_iload_n dJ6_stringSize_0f7a4_22 rfl ?_
  refine o_iload_n dJ6_stringSize_0f7a4_23 rfl ?_
  refine o_icmp_le (tgt := 31) dJ6_stringSize_0f7a4_24 (by decide) ⟨by omega, by omega⟩ ⟨by omega, by omega⟩ (fun c_5 => ?_) (fun c_5 => ?_)
  rotate_left
  · refine o_iload_n dJ6_stringSize_0f7a4_27 rfl ?_
    refine o_iload_n dJ6_stringSize_0f7a4_28 rfl ?_
    refine o_iadd dJ6_stringSize_0f7a4_29 ?_
    refine o_ret1 dJ6_stringSize_0f7a4_30 trivial ?_
    exact ⟨by rw [show (t_nf 8 v).length = 5 from t_nf_lenE 4 8 v (by rw [show (10 : Nat) ^ 4 = 10000 by decide]; omega) (by rw [show (10 : Nat) ^ (4 + 1) = 100000 by decide]; omega) (by decide)]; rfl, rfl, rfl⟩
  refine o_bipush dJ6_stringSize_0f7a4_31 (by decide) ?_
  refine o_iload_n dJ6_stringSize_0f7a4_33 rfl ?_
  refine o_imul dJ6_stringSize_0f7a4_34 ?_
  refine o_istore_n dJ6_stringSize_0f7a4_35 (by decide) ?_
  refine o_iinc dJ6_stringSize_0f7a4_36 rfl (by decide) ?_
  refine o_goto (tgt := 16) dJ6_stringSize_0f7a4_39 (by decide) ?_
  refine o_loc [(0, .int (o_I (-(v : Int)))), (1, .int (o_I 0)), (2, .int (o_I (-1000000))), (3, .int (o_I 6))] rfl ?_
  refine o_iload_n dJ6_stringSize_0f7a4_16 rfl ?_
  refine o_bipush dJ6_stringSize_0f7a4_17 (by decide) ?_
  refine o_icmp_ge (tgt := 42) dJ6_stringSize_0f7a4_19 (by decide) ⟨by decide, by decide⟩ ⟨by decide, by decide⟩ (fun c => absurd c (by decide)) (fun _ => ?_)
  refine o_iload_n dJ6_stringSize_0f7a4_22 rfl ?_
  refine o_iload_n dJ6_stringSize_0f7a4_23 rfl ?_
  refine o_icmp_le (tgt := 31) dJ6_stringSize_0f7a4_24 (by decide) ⟨by omega, by omega⟩ ⟨by omega, by omega⟩ (fun c_6 => ?_) (fun c_6 => ?_)
  rotate_left
  · refine o_iload_n dJ6_stringSize_0f7a4_27 rfl ?_
    refine o_iload_n dJ6_stringSize_0f7a4_28 rfl ?_
    refine o_iadd dJ6_stringSize_0f7a4_29 ?_
    refine o_ret1 dJ6_stringSize_0f7a4_30 trivial ?_
    exact ⟨by rw [show (t_nf 8 v).length = 6 from t_nf_lenE 5 8 v (by rw [show (10 : Nat) ^ 5 = 100000 by decide]; omega) (by rw [show (10 : Nat) ^ (5 + 1) = 1000000 by decide]; omega) (by decide)]; rfl, rfl, rfl⟩
  refine o_bipush dJ6_stringSize_0f7a4_31 (by decide) ?_
  refine o_iload_n dJ6_stringSize_0f7a4_33 rfl ?_
  refine o_imul dJ6_stringSize_0f7a4_34 ?_
  refine o_istore_n dJ6_stringSize_0f7a4_35 (by decide) ?_
  refine o_iinc dJ6_stringSize_0f7a4_36 rfl (by decide) ?_
  refine o_goto (tgt := 16) dJ6_stringSize_0f7a4_39 (by decide) ?_
  refine o_loc [(0, .int (o_I (-(v : Int)))), (1, .int (o_I 0)), (2, .int (o_I (-10000000))), (3, .int (o_I 7))] rfl ?_
  refine o_iload_n dJ6_stringSize_0f7a4_16 rfl ?_
  refine o_bipush dJ6_stringSize_0f7a4_17 (by decide) ?_
  refine o_icmp_ge (tgt := 42) dJ6_stringSize_0f7a4_19 (by decide) ⟨by decide, by decide⟩ ⟨by decide, by decide⟩ (fun c => absurd c (by decide)) (fun _ => ?_)
  refine o_iload_n dJ6_stringSize_0f7a4_22 rfl ?_
  refine o_iload_n dJ6_stringSize_0f7a4_23 rfl ?_
  refine o_icmp_le (tgt := 31) dJ6_stringSize_0f7a4_24 (by decide) ⟨by omega, by omega⟩ ⟨by omega, by omega⟩ (fun c_7 => ?_) (fun c_7 => ?_)
  rotate_left
  · refine o_iload_n dJ6_stringSize_0f7a4_27 rfl ?_
    refine o_iload_n dJ6_stringSize_0f7a4_28 rfl ?_
    refine o_iadd dJ6_stringSize_0f7a4_29 ?_
    refine o_ret1 dJ6_stringSize_0f7a4_30 trivial ?_
    exact ⟨by rw [show (t_nf 8 v).length = 7 from t_nf_lenE 6 8 v (by rw [show (10 : Nat) ^ 6 = 1000000 by decide]; omega) (by rw [show (10 : Nat) ^ (6 + 1) = 10000000 by decide]; omega) (by decide)]; rfl, rfl, rfl⟩
  exfalso
  omega
