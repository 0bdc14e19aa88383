/-! the State's changes, over its numbers -/
def m_ship (M : Nat → Nat → Int) : Nat → Nat → Int := o_e (o_e (o_e (o_e M 0 0 (M 0 0 + 1)) 1 (M 0 0).toNat 100) 2 (M 0 0).toNat 0) 3 (M 0 0).toNat 0
def m_lamp (M : Nat → Nat → Int) (v : Int) : Nat → Nat → Int := o_e (o_e (o_e (o_e (o_e (o_e M 0 1 (M 0 1 + 1)) 4 (M 0 1).toNat v) 5 (M 0 1).toNat 0) 6 (M 0 1).toNat 0) 7 (M 0 1).toNat 0) 8 (M 0 1).toNat 0
def m_req (M : Nat → Nat → Int) (x t : Int) : Nat → Nat → Int := o_e (o_e (o_e M 0 6 (M 0 6 + 1)) 9 (M 0 6).toNat x) 10 (M 0 6).toNat t
def m_oil (M : Nat → Nat → Int) (u : Int) : Nat → Nat → Int := o_e M 0 2 (M 0 2 + u)
def m_pay (M : Nat → Nat → Int) (s : Nat) (c : Int) : Nat → Nat → Int := o_e (o_e M 1 s (M 1 s - c)) 0 5 (M 0 5 + c)
def m_lease (M : Nat → Nat → Int) (s x : Nat) (t : Int) : Nat → Nat → Int := o_e (o_e (m_pay M s (M 4 x * t)) 5 x (s + 1)) 6 x (M 0 3 + t)
theorem o_st_ship {g M : Nat → Nat → Int} (h : o_st g M) (h0 : 0 ≤ M 0 0) : o_st (o_e (o_e (o_e (o_e g 2 0 (M 0 0 + 1)) 3 (M 0 0).toNat 100) 4 (M 0 0).toNat 0) 5 (M 0 0).toNat 0) (m_ship M) := by
  obtain ⟨⟨h1, h2⟩, ⟨h3, h4⟩, ⟨h5, h6⟩, h7, h8, h9, h10⟩ := h
  refine ⟨⟨by simp [o_e, m_ship], fun k hk => ?_⟩, ⟨by simpa [o_e, m_ship] using h3, fun k hk => ?_⟩, ⟨by simpa [o_e, m_ship] using h5, fun k hk => ?_⟩, by simpa [o_e, m_ship] using h7, by simpa [o_e, m_ship] using h8, by simpa [o_e, m_ship] using h9, by simpa [o_e, m_ship] using h10⟩
  · have hk' : (k : Int) < M 0 0 + 1 := by simpa [o_e, m_ship] using hk
    by_cases c : k = (M 0 0).toNat
    · simp [o_e, m_ship, c]
    · have q := h2 k (by omega)
      simp [o_e, m_ship, c] at q ⊢
      simp [q]
  · have q := h4 k (by simpa [o_e, m_ship] using hk)
    simpa [o_e, m_ship] using q
  · have q := h6 k (by simpa [o_e, m_ship] using hk)
    simpa [o_e, m_ship] using q
theorem o_st_lamp {g M : Nat → Nat → Int} (v : Int) (h : o_st g M) (h0 : 0 ≤ M 0 1) : o_st (o_e (o_e (o_e (o_e (o_e (o_e g 6 0 (M 0 1 + 1)) 7 (M 0 1).toNat v) 8 (M 0 1).toNat (-1)) 9 (M 0 1).toNat 0) 10 (M 0 1).toNat 0) 11 (M 0 1).toNat 0) (m_lamp M v) := by
  obtain ⟨⟨h1, h2⟩, ⟨h3, h4⟩, ⟨h5, h6⟩, h7, h8, h9, h10⟩ := h
  refine ⟨⟨by simpa [o_e, m_lamp] using h1, fun k hk => ?_⟩, ⟨by simp [o_e, m_lamp], fun k hk => ?_⟩, ⟨by simpa [o_e, m_lamp] using h5, fun k hk => ?_⟩, by simpa [o_e, m_lamp] using h7, by simpa [o_e, m_lamp] using h8, by simpa [o_e, m_lamp] using h9, by simpa [o_e, m_lamp] using h10⟩
  · have q := h2 k (by simpa [o_e, m_lamp] using hk)
    simpa [o_e, m_lamp] using q
  · have hk' : (k : Int) < M 0 1 + 1 := by simpa [o_e, m_lamp] using hk
    by_cases c : k = (M 0 1).toNat
    · simp [o_e, m_lamp, c]
    · have q := h4 k (by omega)
      simp [o_e, m_lamp, c] at q ⊢
      simp [q]
  · have q := h6 k (by simpa [o_e, m_lamp] using hk)
    simpa [o_e, m_lamp] using q
theorem o_st_req {g M : Nat → Nat → Int} (x t : Int) (h : o_st g M) (h0 : 0 ≤ M 0 6) : o_st (o_e (o_e (o_e g 12 0 (M 0 6 + 1)) 13 (M 0 6).toNat x) 14 (M 0 6).toNat t) (m_req M x t) := by
  obtain ⟨⟨h1, h2⟩, ⟨h3, h4⟩, ⟨h5, h6⟩, h7, h8, h9, h10⟩ := h
  refine ⟨⟨by simpa [o_e, m_req] using h1, fun k hk => ?_⟩, ⟨by simpa [o_e, m_req] using h3, fun k hk => ?_⟩, ⟨by simp [o_e, m_req], fun k hk => ?_⟩, by simpa [o_e, m_req] using h7, by simpa [o_e, m_req] using h8, by simpa [o_e, m_req] using h9, by simpa [o_e, m_req] using h10⟩
  · have q := h2 k (by simpa [o_e, m_req] using hk)
    simpa [o_e, m_req] using q
  · have q := h4 k (by simpa [o_e, m_req] using hk)
    simpa [o_e, m_req] using q
  · have hk' : (k : Int) < M 0 6 + 1 := by simpa [o_e, m_req] using hk
    by_cases c : k = (M 0 6).toNat
    · simp [o_e, m_req, c]
    · have q := h6 k (by omega)
      simp [o_e, m_req, c] at q ⊢
      simp [q]
theorem o_cs1 {k : Nat} (h1 : 1 ≤ k) (h2 : k < 15) : o_cs 1 k := ⟨h1, h2⟩
theorem o_mtI {v z : Int} {g : Nat → Nat → Int} {Q : (Nat → Nat → Int) → Prop} (e : v = z) (h : Q g) : o_mt (some (.int (o_I v))) Q (.inl (some (.int (o_I z)))) o_N (o_mem g) := ⟨by rw [e], rfl, g, rfl, h⟩
theorem o_mt0 {g : Nat → Nat → Int} {Q : (Nat → Nat → Int) → Prop} (h : Q g) : o_mt none Q (.inl none) o_N (o_mem g) := ⟨rfl, rfl, g, rfl, h⟩
set_option maxRecDepth 100000 in
set_option maxHeartbeats 4000000 in
/-- append() -/
theorem ct_X9_append {l : Launch} (hl : l.stackTraces = false) (d : Nat) (g : Nat → Nat → Int) (M : Nat → Nat → Int) (hst : o_st g M) (hwf : o_wf M) (hn : M 0 0 < 6) : o_Ct l yX9_append wX9_append (d + 1) o_no [.ref 2] o_N (o_mem g) 0 0 (o_mt (some (.int (o_I (M 0 0)))) (fun g' => o_st g' (m_ship M) ∧ o_fr (o_cs 1) g g')) := by
  refine o_Ct.ofV hl mX9_append (by decide +kernel) rfl rfl rfl (Nat.le_of_ble_eq_true rfl) ?_
  obtain ⟨hrs, hrl, hrq, hg3, hg4, hg5, hg6⟩ := id hst
  obtain ⟨⟨hws, hwl, hwq, hwo, hwle, hwrq, hwrd⟩, hwh, hwc, hwe⟩ := id hwf
  have hs0 := hrs.1
  have hl0 := hrl.1
  have hq0 := hrq.1
  have hs1 := o_rs2 hrs
  have hl1 := o_rl6 hrl
  have hq1 := o_rq12 hrq
  obtain ⟨hw1, hw2, hw3⟩ := id hws
  obtain ⟨hw4, hw5, hw6, hw7, hw8⟩ := id hwl
  obtain ⟨hw9, hw10, hw11⟩ := id hwq
  have p0 : ((M 0 0).toNat : Int) = M 0 0 := by omega
  have p1 : ((M 0 1).toNat : Int) = M 0 1 := by omega
  have p6 : ((M 0 6).toNat : Int) = M 0 6 := by omega
  refine o_aload_n dX9_append_0 rfl ?_
  refine o_gf dX9_append_1 fl_X9_21 rfl (by decide) rfl ?_
  refine o_bipush dX9_append_4 (by decide) ?_
  refine o_icmp_lt (tgt := 11) dX9_append_6 (by decide) ⟨by omega, by omega⟩ ⟨by omega, by omega⟩ (fun c_6 => ?_) (fun c_6 => ?_)
  · skip
    refine o_aload_n dX9_append_11 rfl ?_
    refine o_gf dX9_append_12 fl_X9_21 rfl (by decide) rfl ?_
    refine o_istore_n dX9_append_15 (by decide) ?_
    refine o_aload_n dX9_append_16 rfl ?_
    refine o_dup dX9_append_17 rfl ?_
    refine o_gf dX9_append_18 fl_X9_21 rfl (by decide) rfl ?_
    refine o_iconst dX9_append_21 ?_
    refine o_iadd dX9_append_22 ?_
    refine o_pmE dX9_append_23 fp_X9_21 rfl (by decide) (Nat.le_of_ble_eq_true rfl) rfl rfl (fun _ => rfl) (by decide) (fun g_23 e_23 => ?_)
    refine o_aload_n dX9_append_26 rfl ?_
    refine o_gf dX9_append_27 fl_X9_9 rfl (by decide) rfl ?_
    rw [show g 2 0 = (((M 0 0).toNat : Nat) : Int) by omega]
    refine o_iload_n dX9_append_30 rfl ?_
    refine o_bipush dX9_append_31 (by decide) ?_
    refine o_iaEn (j := (M 0 0).toNat) dX9_append_33 rfl (by decide) (by decide) rfl (by omega) (fun _ => rfl) (by decide) (fun g_33 e_33 => ?_)
    refine o_aload_n dX9_append_34 rfl ?_
    refine o_gf dX9_append_35 fl_X9_15 rfl (by decide) rfl ?_
    refine o_iload_n dX9_append_38 rfl ?_
    refine o_iconst dX9_append_39 ?_
    refine o_iaEn (j := (M 0 0).toNat) dX9_append_40 rfl (by decide) (by decide) rfl (by omega) (fun _ => rfl) (by decide) (fun g_40 e_40 => ?_)
    refine o_aload_n dX9_append_41 rfl ?_
    refine o_gf dX9_append_42 fl_X9_18 rfl (by decide) rfl ?_
    refine o_iload_n dX9_append_45 rfl ?_
    refine o_iconst dX9_append_46 ?_
    refine o_iaEn (j := (M 0 0).toNat) dX9_append_47 rfl (by decide) (by decide) rfl (by omega) (fun _ => rfl) (by decide) (fun g_47 e_47 => ?_)
    refine o_iload_n dX9_append_48 rfl ?_
    refine o_ret1 dX9_append_49 trivial ?_
    subst e_47 e_40 e_33 e_23
    exact o_mtI (by omega) ⟨by first | exact o_st_ship hst hw1 | (rw [show g 2 0 = M 0 0 by omega]; exact o_st_ship hst hw1), o_fr_e (o_fr_e (o_fr_e (o_fr_e (o_fr_r) (o_cs1 (by decide : 1 ≤ 2) (by decide))) (o_cs1 (by decide : 1 ≤ 3) (by decide))) (o_cs1 (by decide : 1 ≤ 4) (by decide))) (o_cs1 (by decide : 1 ≤ 5) (by decide))⟩
  · skip
    exfalso
    omega
set_option maxRecDepth 100000 in
set_option maxHeartbeats 4000000 in
/-- append(v) -/
theorem ct_X7_append {l : Launch} (hl : l.stackTraces = false) (d : Nat) (g : Nat → Nat → Int) (M : Nat → Nat → Int) (hst : o_st g M) (hwf : o_wf M) (v : Int) (hv : o_R v) (hn : M 0 1 < 8) : o_Ct l yX7_append wX7_append (d + 1) o_no [.ref 6, .int (o_I v)] o_N (o_mem g) 0 0 (o_mt (some (.int (o_I (M 0 1)))) (fun g' => o_st g' (m_lamp M v) ∧ o_fr (o_cs 1) g g')) := by
  refine o_Ct.ofV hl mX7_append (by decide +kernel) rfl rfl rfl (Nat.le_of_ble_eq_true rfl) ?_
  obtain ⟨hrs, hrl, hrq, hg3, hg4, hg5, hg6⟩ := id hst
  obtain ⟨⟨hws, hwl, hwq, hwo, hwle, hwrq, hwrd⟩, hwh, hwc, hwe⟩ := id hwf
  have hs0 := hrs.1
  have hl0 := hrl.1
  have hq0 := hrq.1
  have hs1 := o_rs2 hrs
  have hl1 := o_rl6 hrl
  have hq1 := o_rq12 hrq
  obtain ⟨hw1, hw2, hw3⟩ := id hws
  obtain ⟨hw4, hw5, hw6, hw7, hw8⟩ := id hwl
  obtain ⟨hw9, hw10, hw11⟩ := id hwq
  have p0 : ((M 0 0).toNat : Int) = M 0 0 := by omega
  have p1 : ((M 0 1).toNat : Int) = M 0 1 := by omega
  have p6 : ((M 0 6).toNat : Int) = M 0 6 := by omega
  obtain ⟨v1, v2⟩ := id hv
  refine o_aload_n dX7_append_0 rfl ?_
  refine o_gf dX7_append_1 fl_X7_28 rfl (by decide) rfl ?_
  refine o_bipush dX7_append_4 (by decide) ?_
  refine o_icmp_lt (tgt := 11) dX7_append_6 (by decide) ⟨by omega, by omega⟩ ⟨by omega, by omega⟩ (fun c_6 => ?_) (fun c_6 => ?_)
  · skip
    refine o_aload_n dX7_append_11 rfl ?_
    refine o_gf dX7_append_12 fl_X7_28 rfl (by decide) rfl ?_
    refine o_istore_n dX7_append_15 (by decide) ?_
    refine o_aload_n dX7_append_16 rfl ?_
    refine o_dup dX7_append_17 rfl ?_
    refine o_gf dX7_append_18 fl_X7_28 rfl (by decide) rfl ?_
    refine o_iconst dX7_append_21 ?_
    refine o_iadd dX7_append_22 ?_
    refine o_pmE dX7_append_23 fp_X7_28 rfl (by decide) (Nat.le_of_ble_eq_true rfl) rfl rfl (fun _ => rfl) (by decide) (fun g_23 e_23 => ?_)
    refine o_aload_n dX7_append_26 rfl ?_
    refine o_gf dX7_append_27 fl_X7_9 rfl (by decide) rfl ?_
    rw [show g 6 0 = (((M 0 1).toNat : Nat) : Int) by omega]
    refine o_iload_n dX7_append_30 rfl ?_
    refine o_iload_n dX7_append_31 rfl ?_
    refine o_iaEn (j := (M 0 1).toNat) dX7_append_32 rfl (by decide) (by decide) rfl (by omega) (fun _ => rfl) (by decide) (fun g_32 e_32 => ?_)
    refine o_aload_n dX7_append_33 rfl ?_
    refine o_gf dX7_append_34 fl_X7_15 rfl (by decide) rfl ?_
    refine o_iload_n dX7_append_37 rfl ?_
    refine o_iconst dX7_append_38 ?_
    refine o_iaEn (j := (M 0 1).toNat) dX7_append_39 rfl (by decide) (by decide) rfl (by omega) (fun _ => rfl) (by decide) (fun g_39 e_39 => ?_)
    refine o_aload_n dX7_append_40 rfl ?_
    refine o_gf dX7_append_41 fl_X7_18 rfl (by decide) rfl ?_
    refine o_iload_n dX7_append_44 rfl ?_
    refine o_iconst dX7_append_45 ?_
    refine o_iaEn (j := (M 0 1).toNat) dX7_append_46 rfl (by decide) (by decide) rfl (by omega) (fun _ => rfl) (by decide) (fun g_46 e_46 => ?_)
    refine o_aload_n dX7_append_47 rfl ?_
    refine o_gf dX7_append_48 fl_X7_21 rfl (by decide) rfl ?_
    refine o_iload_n dX7_append_51 rfl ?_
    refine o_iconst dX7_append_52 ?_
    refine o_iaEn (j := (M 0 1).toNat) dX7_append_53 rfl (by decide) (by decide) rfl (by omega) (fun _ => rfl) (by decide) (fun g_53 e_53 => ?_)
    refine o_aload_n dX7_append_54 rfl ?_
    refine o_gf dX7_append_55 fl_X7_24 rfl (by decide) rfl ?_
    refine o_iload_n dX7_append_58 rfl ?_
    refine o_iconst dX7_append_59 ?_
    refine o_zaEn (j := (M 0 1).toNat) dX7_append_60 rfl (by decide) (by decide) rfl (by omega) (by first | exact Or.inl rfl | exact Or.inr rfl) (fun _ => rfl) (by decide) (fun g_60 e_60 => ?_)
    refine o_iload_n dX7_append_61 rfl ?_
    refine o_ret1 dX7_append_62 trivial ?_
    subst e_60 e_53 e_46 e_39 e_32 e_23
    exact o_mtI (by omega) ⟨by first | exact o_st_lamp v hst hw4 | (rw [show g 6 0 = M 0 1 by omega]; exact o_st_lamp v hst hw4), o_fr_e (o_fr_e (o_fr_e (o_fr_e (o_fr_e (o_fr_e (o_fr_r) (o_cs1 (by decide : 1 ≤ 6) (by decide))) (o_cs1 (by decide : 1 ≤ 7) (by decide))) (o_cs1 (by decide : 1 ≤ 8) (by decide))) (o_cs1 (by decide : 1 ≤ 9) (by decide))) (o_cs1 (by decide : 1 ≤ 10) (by decide))) (o_cs1 (by decide : 1 ≤ 11) (by decide))⟩
  · skip
    exfalso
    omega
set_option maxRecDepth 100000 in
set_option maxHeartbeats 4000000 in
/-- append(x, t) -/
theorem ct_X8_append {l : Launch} (hl : l.stackTraces = false) (d : Nat) (g : Nat → Nat → Int) (M : Nat → Nat → Int) (hst : o_st g M) (hwf : o_wf M) (x : Int) (hx : o_R x) (t : Int) (ht : o_R t) (hn : M 0 6 < 8) : o_Ct l yX8_append wX8_append (d + 1) o_no [.ref 12, .int (o_I x), .int (o_I t)] o_N (o_mem g) 0 0 (o_mt (some (.int (o_I (M 0 6)))) (fun g' => o_st g' (m_req M x t) ∧ o_fr (o_cs 1) g g')) := by
  refine o_Ct.ofV hl mX8_append (by decide +kernel) rfl rfl rfl (Nat.le_of_ble_eq_true rfl) ?_
  obtain ⟨hrs, hrl, hrq, hg3, hg4, hg5, hg6⟩ := id hst
  obtain ⟨⟨hws, hwl, hwq, hwo, hwle, hwrq, hwrd⟩, hwh, hwc, hwe⟩ := id hwf
  have hs0 := hrs.1
  have hl0 := hrl.1
  have hq0 := hrq.1
  have hs1 := o_rs2 hrs
  have hl1 := o_rl6 hrl
  have hq1 := o_rq12 hrq
  obtain ⟨hw1, hw2, hw3⟩ := id hws
  obtain ⟨hw4, hw5, hw6, hw7, hw8⟩ := id hwl
  obtain ⟨hw9, hw10, hw11⟩ := id hwq
  have p0 : ((M 0 0).toNat : Int) = M 0 0 := by omega
  have p1 : ((M 0 1).toNat : Int) = M 0 1 := by omega
  have p6 : ((M 0 6).toNat : Int) = M 0 6 := by omega
  obtain ⟨x1, x2⟩ := id hx
  obtain ⟨t1, t2⟩ := id ht
  refine o_aload_n dX8_append_0 rfl ?_
  refine o_gf dX8_append_1 fl_X8_18 rfl (by decide) rfl ?_
  refine o_bipush dX8_append_4 (by decide) ?_
  refine o_icmp_lt (tgt := 11) dX8_append_6 (by decide) ⟨by omega, by omega⟩ ⟨by omega, by omega⟩ (fun c_6 => ?_) (fun c_6 => ?_)
  · skip
    refine o_aload_n dX8_append_11 rfl ?_
    refine o_gf dX8_append_12 fl_X8_18 rfl (by decide) rfl ?_
    refine o_istore_n dX8_append_15 (by decide) ?_
    refine o_aload_n dX8_append_16 rfl ?_
    refine o_dup dX8_append_17 rfl ?_
    refine o_gf dX8_append_18 fl_X8_18 rfl (by decide) rfl ?_
    refine o_iconst dX8_append_21 ?_
    refine o_iadd dX8_append_22 ?_
    refine o_pmE dX8_append_23 fp_X8_18 rfl (by decide) (Nat.le_of_ble_eq_true rfl) rfl rfl (fun _ => rfl) (by decide) (fun g_23 e_23 => ?_)
    refine o_aload_n dX8_append_26 rfl ?_
    refine o_gf dX8_append_27 fl_X8_9 rfl (by decide) rfl ?_
    rw [show g 12 0 = (((M 0 6).toNat : Nat) : Int) by omega]
    refine o_iload_n dX8_append_30 rfl ?_
    refine o_iload_n dX8_append_31 rfl ?_
    refine o_iaEn (j := (M 0 6).toNat) dX8_append_32 rfl (by decide) (by decide) rfl (by omega) (fun _ => rfl) (by decide) (fun g_32 e_32 => ?_)
    refine o_aload_n dX8_append_33 rfl ?_
    refine o_gf dX8_append_34 fl_X8_15 rfl (by decide) rfl ?_
    refine o_iload_n dX8_append_37 rfl ?_
    refine o_iload_n dX8_append_38 rfl ?_
    refine o_iaEn (j := (M 0 6).toNat) dX8_append_39 rfl (by decide) (by decide) rfl (by omega) (fun _ => rfl) (by decide) (fun g_39 e_39 => ?_)
    refine o_iload_n dX8_append_40 rfl ?_
    refine o_ret1 dX8_append_41 trivial ?_
    subst e_39 e_32 e_23
    exact o_mtI (by omega) ⟨by first | exact o_st_req x t hst hw9 | (rw [show g 12 0 = M 0 6 by omega]; exact o_st_req x t hst hw9), o_fr_e (o_fr_e (o_fr_e (o_fr_r) (o_cs1 (by decide : 1 ≤ 12) (by decide))) (o_cs1 (by decide : 1 ≤ 13) (by decide))) (o_cs1 (by decide : 1 ≤ 14) (by decide))⟩
  · skip
    exfalso
    omega
