/-! the class's office: changes -/
section XD
variable {g g1 g2 M M' : Nat → Nat → Int} {P P1 : List (Nat → Nat → Int)} {S : Option (Nat → Nat → Int)} {T : Nat → Nat → Int}
theorem x_push (h : o_xd g M P S T) (q : o_hs g1 P1 ∧ o_fr o_hc g g1) : o_xd g1 M P1 S T ∧ o_fr x_f9 g g1 := by
  have e : ∀ a, (a < 43 ∨ 157 ≤ a) → g1 a = g a := fun a ha => q.2 a (fun z => by have z : 43 ≤ a ∧ a < 157 := z; omega)
  exact ⟨⟨o_st_c h.1 (fun a a1 a2 => e a (by omega)), q.1, x_m3_c h.2.2.1 (by rw [e 0 (by omega)]) (fun a a1 a2 => e a (by omega)), x_m4_c h.2.2.2 (fun j _ => by rw [e 0 (by omega)]) (by rw [e 163 (by omega)]) (e 164 (by omega)) (e 190 (by omega)) (e 191 (by omega))⟩, o_fr_m q.2 (fun a ha => show a ≤ 191 by have ha : 43 ≤ a ∧ a < 157 := ha; omega)⟩
theorem x_chg (h : o_xd g M P S T) (q : o_st g1 M' ∧ o_fr (o_cs 1) g g1) : o_xd g1 M' P S T ∧ o_fr x_f9 g g1 := by
  have e : ∀ a, (a < 1 ∨ 15 ≤ a) → g1 a = g a := fun a ha => q.2 a (fun z => by have z : 1 ≤ a ∧ a < 1 + 14 := z; omega)
  exact ⟨⟨q.1, o_hs_c h.2.1 (fun a a1 a2 => e a (by omega)), x_m3_c h.2.2.1 (by rw [e 0 (by omega)]) (fun a a1 a2 => e a (by omega)), x_m4_c h.2.2.2 (fun j _ => by rw [e 0 (by omega)]) (by rw [e 163 (by omega)]) (e 164 (by omega)) (e 190 (by omega)) (e 191 (by omega))⟩, o_fr_m q.2 (fun a ha => show a ≤ 191 by have ha : 1 ≤ a ∧ a < 1 + 14 := ha; omega)⟩
theorem x_done (h : o_xd g M P S T) (q : o_hs g1 P1 ∧ o_fr o_hc g g1) (r : o_st g2 M' ∧ o_fr (o_cs 1) g1 g2) : o_xd g2 M' P1 S T ∧ o_fr x_f9 g g2 := by
  have a := x_push h q
  have b := x_chg a.1 r
  exact ⟨b.1, o_fr_t a.2 b.2⟩
end XD
theorem x_ship (M : Nat → Nat → Int)  : (r_ship M = 0 ∧ f_ship M = 32 ∧ M 0 0 < 6) ∨ (0 ≤ f_ship M ∧ f_ship M < 128) ∧ ∃ E, r_ship M ≠ 0 ∧ ["java/lang/IllegalStateException"][(r_ship M - 1).toNat]? = some E ∧ x_fE (f_ship M) = some E := by
  unfold r_ship f_ship
  by_cases h0 : 6 ≤ M 0 0
  · rw [if_pos h0, if_pos h0]; exact Or.inr ⟨by decide, _, by decide, rfl, rfl⟩
  rw [if_neg h0, if_neg h0]
  exact Or.inl ⟨rfl, rfl, by omega⟩
theorem x_lamp (M : Nat → Nat → Int) (v : Int) : (r_lamp M v = 0 ∧ f_lamp M v = 32 ∧ (1 ≤ v ∧ v ≤ 3) ∧ M 0 1 < 8) ∨ (0 ≤ f_lamp M v ∧ f_lamp M v < 128) ∧ ∃ E, r_lamp M v ≠ 0 ∧ ["java/lang/IllegalArgumentException", "java/lang/IllegalStateException"][(r_lamp M v - 1).toNat]? = some E ∧ x_fE (f_lamp M v) = some E := by
  unfold r_lamp f_lamp
  by_cases h0 : v < 1 ∨ 3 < v
  · rw [if_pos h0, if_pos h0]; exact Or.inr ⟨by decide, _, by decide, rfl, rfl⟩
  rw [if_neg h0, if_neg h0]
  by_cases h1 : 8 ≤ M 0 1
  · rw [if_pos h1, if_pos h1]; exact Or.inr ⟨by decide, _, by decide, rfl, rfl⟩
  rw [if_neg h1, if_neg h1]
  exact Or.inl ⟨rfl, rfl, by omega⟩
theorem x_oil (M : Nat → Nat → Int) (u : Int) : (r_oil M u = 0 ∧ f_oil M u = 32 ∧ (1 ≤ u ∧ u ≤ 200) ∧ M 0 2 + u ≤ 500) ∨ (0 ≤ f_oil M u ∧ f_oil M u < 128) ∧ ∃ E, r_oil M u ≠ 0 ∧ ["java/lang/IllegalArgumentException", "java/lang/IllegalStateException"][(r_oil M u - 1).toNat]? = some E ∧ x_fE (f_oil M u) = some E := by
  unfold r_oil f_oil
  by_cases h0 : u < 1 ∨ 200 < u
  · rw [if_pos h0, if_pos h0]; exact Or.inr ⟨by decide, _, by decide, rfl, rfl⟩
  rw [if_neg h0, if_neg h0]
  by_cases h1 : 500 < M 0 2 + u
  · rw [if_pos h1, if_pos h1]; exact Or.inr ⟨by decide, _, by decide, rfl, rfl⟩
  rw [if_neg h1, if_neg h1]
  exact Or.inl ⟨rfl, rfl, by omega⟩
theorem x_lease (M : Nat → Nat → Int) (s x t : Int) : (r_lease M s x t = 0 ∧ f_lease M s x t = 32 ∧ (0 ≤ s ∧ s < M 0 0) ∧ (0 ≤ x ∧ x < M 0 1) ∧ (1 ≤ t ∧ t ≤ 24)) ∨ (0 ≤ f_lease M s x t ∧ f_lease M s x t < 128) ∧ ∃ E, r_lease M s x t ≠ 0 ∧ ["java/lang/IndexOutOfBoundsException", "java/lang/IllegalArgumentException", "java/lang/IllegalStateException", "java/lang/UnsupportedOperationException"][(r_lease M s x t - 1).toNat]? = some E ∧ x_fE (f_lease M s x t) = some E := by
  unfold r_lease f_lease
  by_cases h0 : ¬ (0 ≤ s ∧ s < M 0 0) ∨ ¬ (0 ≤ x ∧ x < M 0 1)
  · rw [if_pos h0, if_pos h0]; exact Or.inr ⟨by decide, _, by decide, rfl, rfl⟩
  rw [if_neg h0, if_neg h0]
  by_cases h1 : t < 1 ∨ 24 < t
  · rw [if_pos h1, if_pos h1]; exact Or.inr ⟨by decide, _, by decide, rfl, rfl⟩
  rw [if_neg h1, if_neg h1]
  by_cases h2 : 0 < M 5 x.toNat
  · rw [if_pos h2, if_pos h2]; exact Or.inr ⟨by decide, _, by decide, rfl, rfl⟩
  rw [if_neg h2, if_neg h2]
  by_cases h3 : M 4 x.toNat * t ≤ M 1 s.toNat
  case neg => rw [if_neg h3, if_neg h3]; exact Or.inr ⟨by decide, _, by decide, rfl, rfl⟩
  rw [if_pos h3, if_pos h3]
  exact Or.inl ⟨rfl, rfl, by omega⟩
theorem x_req (M : Nat → Nat → Int) (x t : Int) : (r_req M x t = 0 ∧ f_req M x t (o_ps (fun i => M 9 i = x) (M 0 6).toNat) = 32 ∧ (0 ≤ x ∧ x < M 0 1) ∧ (1 ≤ t ∧ t ≤ 24) ∧ 0 < M 5 x.toNat ∧ m_pos M x.toNat = -1) ∨ (0 ≤ f_req M x t (o_ps (fun i => M 9 i = x) (M 0 6).toNat) ∧ f_req M x t (o_ps (fun i => M 9 i = x) (M 0 6).toNat) < 128) ∧ ∃ E, r_req M x t ≠ 0 ∧ ["java/lang/IndexOutOfBoundsException", "java/lang/IllegalArgumentException", "java/util/NoSuchElementException", "java/lang/IllegalStateException"][(r_req M x t - 1).toNat]? = some E ∧ x_fE (f_req M x t (o_ps (fun i => M 9 i = x) (M 0 6).toNat)) = some E := by
  unfold r_req f_req
  by_cases h0 : ¬ (0 ≤ x ∧ x < M 0 1)
  · rw [if_pos h0, if_pos h0]; exact Or.inr ⟨by decide, _, by decide, rfl, rfl⟩
  rw [if_neg h0, if_neg h0]
  have e : o_ps (fun i => M 9 i = x) (M 0 6).toNat = m_pos M x.toNat := by unfold m_pos; rw [Int.toNat_of_nonneg (by omega)]
  rw [e]
  by_cases h3 : t < 1 ∨ 24 < t
  · rw [if_pos h3, if_pos h3]; exact Or.inr ⟨by decide, _, by decide, rfl, rfl⟩
  rw [if_neg h3, if_neg h3]
  by_cases h4 : ¬ 0 < M 5 x.toNat
  · rw [if_pos h4, if_pos h4]; exact Or.inr ⟨by decide, _, by decide, rfl, rfl⟩
  rw [if_neg h4, if_neg h4]
  by_cases h5 : m_pos M x.toNat = -1
  case neg => rw [if_neg h5, if_neg h5]; exact Or.inr ⟨by decide, _, by decide, rfl, rfl⟩
  rw [if_pos h5, if_pos h5]
  exact Or.inl ⟨rfl, rfl, by omega, by omega, by omega, h5⟩
theorem x_wait (t : Int) : (r_wait t = 0 ∧ f_wait t = 32 ∧ (1 ≤ t ∧ t ≤ 48)) ∨ (0 ≤ f_wait t ∧ f_wait t < 128) ∧ ∃ E, r_wait t ≠ 0 ∧ ["java/lang/IllegalArgumentException"][(r_wait t - 1).toNat]? = some E ∧ x_fE (f_wait t) = some E := by
  unfold r_wait f_wait
  by_cases h0 : t < 1 ∨ 48 < t
  · rw [if_pos h0, if_pos h0]; exact Or.inr ⟨by decide, _, by decide, rfl, rfl⟩
  rw [if_neg h0, if_neg h0]
  exact Or.inl ⟨rfl, rfl, by omega⟩
set_option maxRecDepth 100000 in
set_option maxHeartbeats 4000000 in
/-- addShip() -/
theorem ct_X11_addShip {l : Launch} (hl : l.stackTraces = false) (d : Nat) (g M : Nat → Nat → Int) (P : List (Nat → Nat → Int)) (S : Option (Nat → Nat → Int)) (T : Nat → Nat → Int) (hxd : o_xd g M P S T) (hwf : o_wf M) : o_Ct l yX11_addShip wX11_addShip (d + 4) o_no [.ref 0] o_N (o_mem g) 1 6 (x_x ["java/lang/IllegalStateException"] (r_ship M) (.int (o_I (M 0 0))) (if r_ship M = 0 then m_ship M else M) (if r_ship M = 0 then h_push P M else P) (S) (T) g) := by
  refine o_Ct.ofV hl mX11_addShip (by decide +kernel) rfl rfl rfl (Nat.le_of_ble_eq_true rfl) ?_
  have hst := hxd.1
  obtain ⟨hrs, hrl, hrq, hg3, hg4, hg5, hg6⟩ := id hst
  obtain ⟨⟨hws, hwl, hwq, hwo, hwle, hwrq, hwrd⟩, hwh, hwc, hwe⟩ := id hwf
  have hs0 := hrs.1
  have hl0 := hrl.1
  have hq0 := hrq.1
  have hs1 := o_rs2 hrs
  have hl1 := o_rl6 hrl
  have hq1 := o_rq12 hrq
  obtain ⟨hw1, hw2, hw3⟩ := id hws
  obtain ⟨hw4, hw5, hw6, hw7, hw8⟩ := id hwl
  obtain ⟨hw9, hw10, hw11⟩ := id hwq
  have hwk := hwf.1
  refine o_aload_n dX11_addShip_0 rfl ?_
  refine o_gf dX11_addShip_1 fl_X11_12 rfl (by decide) rfl ?_
  refine o_cV _ (ct_X10_faultOfNewShip hl d g M hst hwf) dX11_addShip_4 ml_X11_68 yw_X10_faultOfNewShip rfl (by decide) (by omega) (by decide) rfl rfl rfl (Nat.le_of_ble_eq_true rfl) ?_
  rcases x_ship M with ⟨hr, hf, hp⟩ | ⟨hz, E, hr, hE, hf⟩
  case inr => exact o_cSx _ (ct_X11_throwForB hl d o_N (o_mem g) (f_ship M) hz E hf) dX11_addShip_7 ml_X11_72 ys_X11_throwFor rfl (by decide) (by omega) (by omega) (by omega) rfl (Nat.le_of_ble_eq_true rfl) (o_T.out rfl (x_xN hr hE (by rw [if_neg hr, if_neg hr]; exact ⟨hxd, o_fr_r⟩)))
  refine o_cS _ (ct_X11_throwForA hl d o_N (o_mem g) (f_ship M) hf) dX11_addShip_7 ml_X11_72 ys_X11_throwFor rfl (by decide) (by omega) rfl (Nat.le_of_ble_eq_true rfl) ?_
  refine o_aload_n dX11_addShip_10 rfl ?_
  refine o_gf dX11_addShip_11 fl_X11_25 rfl (by decide) rfl ?_
  refine o_aload_n dX11_addShip_14 rfl ?_
  refine o_gf dX11_addShip_15 fl_X11_12 rfl (by decide) rfl ?_
  refine o_cVm _ (ct_X5_push hl d g P hxd.2.1 M 1 o_SB_1 (by decide) hst hws hwl hwq) dX11_addShip_18 ml_X11_76 yw_X5_push rfl (by decide) (by omega) (by decide) rfl rfl rfl (Nat.le_of_ble_eq_true rfl) (fun g_18 q_18 => ?_)
  have hst1 := (x_push hxd q_18).1.1
  refine o_aload_n dX11_addShip_21 rfl ?_
  refine o_gf dX11_addShip_22 fl_X11_12 rfl (by decide) rfl ?_
  refine o_gf dX11_addShip_25 fl_X11_80 rfl (by decide) rfl ?_
  refine o_cVm _ (ct_X9_append hl d g_18 M hst1 hwf hp) dX11_addShip_28 ml_X11_84 yw_X9_append rfl (by decide) (by omega) (by decide) rfl rfl rfl (Nat.le_of_ble_eq_true rfl) (fun g_28 q_28 => ?_)
  refine o_ret1 dX11_addShip_31 trivial ?_
  exact x_xI hr rfl (by rw [if_pos hr, if_pos hr]; exact x_done hxd q_18 q_28)
set_option maxRecDepth 100000 in
set_option maxHeartbeats 4000000 in
/-- addLamp() -/
theorem ct_X11_addLamp {l : Launch} (hl : l.stackTraces = false) (d : Nat) (g M : Nat → Nat → Int) (P : List (Nat → Nat → Int)) (S : Option (Nat → Nat → Int)) (T : Nat → Nat → Int) (hxd : o_xd g M P S T) (hwf : o_wf M) (v : Int) (hv : o_R v) : o_Ct l yX11_addLamp wX11_addLamp (d + 4) o_no [.ref 0, .int (o_I v)] o_N (o_mem g) 1 6 (x_x ["java/lang/IllegalArgumentException", "java/lang/IllegalStateException"] (r_lamp M v) (.int (o_I (M 0 1))) (if r_lamp M v = 0 then m_lamp M v else M) (if r_lamp M v = 0 then h_push P M else P) (S) (T) g) := by
  refine o_Ct.ofV hl mX11_addLamp (by decide +kernel) rfl rfl rfl (Nat.le_of_ble_eq_true rfl) ?_
  have hst := hxd.1
  obtain ⟨hrs, hrl, hrq, hg3, hg4, hg5, hg6⟩ := id hst
  obtain ⟨⟨hws, hwl, hwq, hwo, hwle, hwrq, hwrd⟩, hwh, hwc, hwe⟩ := id hwf
  have hs0 := hrs.1
  have hl0 := hrl.1
  have hq0 := hrq.1
  have hs1 := o_rs2 hrs
  have hl1 := o_rl6 hrl
  have hq1 := o_rq12 hrq
  obtain ⟨hw1, hw2, hw3⟩ := id hws
  obtain ⟨hw4, hw5, hw6, hw7, hw8⟩ := id hwl
  obtain ⟨hw9, hw10, hw11⟩ := id hwq
  have hwk := hwf.1
  refine o_aload_n dX11_addLamp_0 rfl ?_
  refine o_gf dX11_addLamp_1 fl_X11_12 rfl (by decide) rfl ?_
  refine o_iload_n dX11_addLamp_4 rfl ?_
  refine o_cV _ (ct_X10_faultOfNewLamp hl d g M hst hwf v hv) dX11_addLamp_5 ml_X11_90 yw_X10_faultOfNewLamp rfl (by decide) (by omega) (by decide) rfl rfl rfl (Nat.le_of_ble_eq_true rfl) ?_
  rcases x_lamp M v with ⟨hr, hf, hpv, hp⟩ | ⟨hz, E, hr, hE, hf⟩
  case inr => exact o_cSx _ (ct_X11_throwForB hl d o_N (o_mem g) (f_lamp M v) hz E hf) dX11_addLamp_8 ml_X11_72 ys_X11_throwFor rfl (by decide) (by omega) (by omega) (by omega) rfl (Nat.le_of_ble_eq_true rfl) (o_T.out rfl (x_xN hr hE (by rw [if_neg hr, if_neg hr]; exact ⟨hxd, o_fr_r⟩)))
  refine o_cS _ (ct_X11_throwForA hl d o_N (o_mem g) (f_lamp M v) hf) dX11_addLamp_8 ml_X11_72 ys_X11_throwFor rfl (by decide) (by omega) rfl (Nat.le_of_ble_eq_true rfl) ?_
  refine o_aload_n dX11_addLamp_11 rfl ?_
  refine o_gf dX11_addLamp_12 fl_X11_25 rfl (by decide) rfl ?_
  refine o_aload_n dX11_addLamp_15 rfl ?_
  refine o_gf dX11_addLamp_16 fl_X11_12 rfl (by decide) rfl ?_
  refine o_cVm _ (ct_X5_push hl d g P hxd.2.1 M 1 o_SB_1 (by decide) hst hws hwl hwq) dX11_addLamp_19 ml_X11_76 yw_X5_push rfl (by decide) (by omega) (by decide) rfl rfl rfl (Nat.le_of_ble_eq_true rfl) (fun g_19 q_19 => ?_)
  have hst1 := (x_push hxd q_19).1.1
  refine o_aload_n dX11_addLamp_22 rfl ?_
  refine o_gf dX11_addLamp_23 fl_X11_12 rfl (by decide) rfl ?_
  refine o_gf dX11_addLamp_26 fl_X11_94 rfl (by decide) rfl ?_
  refine o_iload_n dX11_addLamp_29 rfl ?_
  refine o_cVm _ (ct_X7_append hl d g_19 M hst1 hwf v hv hp) dX11_addLamp_30 ml_X11_98 yw_X7_append rfl (by decide) (by omega) (by decide) rfl rfl rfl (Nat.le_of_ble_eq_true rfl) (fun g_30 q_30 => ?_)
  refine o_ret1 dX11_addLamp_33 trivial ?_
  exact x_xI hr rfl (by rw [if_pos hr, if_pos hr]; exact x_done hxd q_19 q_30)
set_option maxRecDepth 100000 in
set_option maxHeartbeats 4000000 in
/-- addOil() -/
theorem ct_X11_addOil {l : Launch} (hl : l.stackTraces = false) (d : Nat) (g M : Nat → Nat → Int) (P : List (Nat → Nat → Int)) (S : Option (Nat → Nat → Int)) (T : Nat → Nat → Int) (hxd : o_xd g M P S T) (hwf : o_wf M) (u : Int) (hu : o_R u) : o_Ct l yX11_addOil wX11_addOil (d + 4) o_no [.ref 0, .int (o_I u)] o_N (o_mem g) 1 6 (x_x ["java/lang/IllegalArgumentException", "java/lang/IllegalStateException"] (r_oil M u) (.int (o_I (M 0 2 + u))) (if r_oil M u = 0 then m_oil M u else M) (if r_oil M u = 0 then h_push P M else P) (S) (T) g) := by
  refine o_Ct.ofV hl mX11_addOil (by decide +kernel) rfl rfl rfl (Nat.le_of_ble_eq_true rfl) ?_
  have hst := hxd.1
  obtain ⟨hrs, hrl, hrq, hg3, hg4, hg5, hg6⟩ := id hst
  obtain ⟨⟨hws, hwl, hwq, hwo, hwle, hwrq, hwrd⟩, hwh, hwc, hwe⟩ := id hwf
  have hs0 := hrs.1
  have hl0 := hrl.1
  have hq0 := hrq.1
  have hs1 := o_rs2 hrs
  have hl1 := o_rl6 hrl
  have hq1 := o_rq12 hrq
  obtain ⟨hw1, hw2, hw3⟩ := id hws
  obtain ⟨hw4, hw5, hw6, hw7, hw8⟩ := id hwl
  obtain ⟨hw9, hw10, hw11⟩ := id hwq
  have hwk := hwf.1
  refine o_aload_n dX11_addOil_0 rfl ?_
  refine o_gf dX11_addOil_1 fl_X11_12 rfl (by decide) rfl ?_
  refine o_iload_n dX11_addOil_4 rfl ?_
  refine o_cV _ (ct_X10_faultOfNewOil hl d g M hst hwf u hu) dX11_addOil_5 ml_X11_103 yw_X10_faultOfNewOil rfl (by decide) (by omega) (by decide) rfl rfl rfl (Nat.le_of_ble_eq_true rfl) ?_
  rcases x_oil M u with ⟨hr, hf, hpv, hp⟩ | ⟨hz, E, hr, hE, hf⟩
  case inr => exact o_cSx _ (ct_X11_throwForB hl d o_N (o_mem g) (f_oil M u) hz E hf) dX11_addOil_8 ml_X11_72 ys_X11_throwFor rfl (by decide) (by omega) (by omega) (by omega) rfl (Nat.le_of_ble_eq_true rfl) (o_T.out rfl (x_xN hr hE (by rw [if_neg hr, if_neg hr]; exact ⟨hxd, o_fr_r⟩)))
  refine o_cS _ (ct_X11_throwForA hl d o_N (o_mem g) (f_oil M u) hf) dX11_addOil_8 ml_X11_72 ys_X11_throwFor rfl (by decide) (by omega) rfl (Nat.le_of_ble_eq_true rfl) ?_
  refine o_aload_n dX11_addOil_11 rfl ?_
  refine o_gf dX11_addOil_12 fl_X11_25 rfl (by decide) rfl ?_
  refine o_aload_n dX11_addOil_15 rfl ?_
  refine o_gf dX11_addOil_16 fl_X11_12 rfl (by decide) rfl ?_
  refine o_cVm _ (ct_X5_push hl d g P hxd.2.1 M 1 o_SB_1 (by decide) hst hws hwl hwq) dX11_addOil_19 ml_X11_76 yw_X5_push rfl (by decide) (by omega) (by decide) rfl rfl rfl (Nat.le_of_ble_eq_true rfl) (fun g_19 q_19 => ?_)
  have hst1 := (x_push hxd q_19).1.1
  refine o_aload_n dX11_addOil_22 rfl ?_
  refine o_gf dX11_addOil_23 fl_X11_12 rfl (by decide) rfl ?_
  refine o_iload_n dX11_addOil_26 rfl ?_
  refine o_cVm _ (ct_X10_fillUp hl d g_19 M hst1 hwf u hu) dX11_addOil_27 ml_X11_106 yw_X10_fillUp rfl (by decide) (by omega) (by decide) rfl rfl rfl (Nat.le_of_ble_eq_true rfl) (fun g_27 q_27 => ?_)
  refine o_ret1 dX11_addOil_30 trivial ?_
  exact x_xI hr rfl (by rw [if_pos hr, if_pos hr]; exact x_done hxd q_19 q_27)
set_option maxRecDepth 100000 in
set_option maxHeartbeats 4000000 in
/-- lease() -/
theorem ct_X11_lease {l : Launch} (hl : l.stackTraces = false) (d : Nat) (g M : Nat → Nat → Int) (P : List (Nat → Nat → Int)) (S : Option (Nat → Nat → Int)) (T : Nat → Nat → Int) (hxd : o_xd g M P S T) (hwf : o_wf M) (s : Int) (hs : o_R s) (x : Int) (hx : o_R x) (t : Int) (ht : o_R t) : o_Ct l yX11_lease wX11_lease (d + 5) o_no [.ref 0, .int (o_I s), .int (o_I x), .int (o_I t)] o_N (o_mem g) 1 6 (x_x ["java/lang/IndexOutOfBoundsException", "java/lang/IllegalArgumentException", "java/lang/IllegalStateException", "java/lang/UnsupportedOperationException"] (r_lease M s x t) (.int (o_I (M 0 3 + t))) (if r_lease M s x t = 0 then m_lease M s.toNat x.toNat t else M) (if r_lease M s x t = 0 then h_push P M else P) (S) (T) g) := by
  refine o_Ct.ofV hl mX11_lease (by decide +kernel) rfl rfl rfl (Nat.le_of_ble_eq_true rfl) ?_
  have hst := hxd.1
  obtain ⟨hrs, hrl, hrq, hg3, hg4, hg5, hg6⟩ := id hst
  obtain ⟨⟨hws, hwl, hwq, hwo, hwle, hwrq, hwrd⟩, hwh, hwc, hwe⟩ := id hwf
  have hs0 := hrs.1
  have hl0 := hrl.1
  have hq0 := hrq.1
  have hs1 := o_rs2 hrs
  have hl1 := o_rl6 hrl
  have hq1 := o_rq12 hrq
  obtain ⟨hw1, hw2, hw3⟩ := id hws
  obtain ⟨hw4, hw5, hw6, hw7, hw8⟩ := id hwl
  obtain ⟨hw9, hw10, hw11⟩ := id hwq
  have hwk := hwf.1
  refine o_aload_n dX11_lease_0 rfl ?_
  refine o_gf dX11_lease_1 fl_X11_12 rfl (by decide) rfl ?_
  refine o_iload_n dX11_lease_4 rfl ?_
  refine o_iload_n dX11_lease_5 rfl ?_
  refine o_iload_n dX11_lease_6 rfl ?_
  refine o_cV _ (ct_X10_faultOfLease hl d g M hst hwf s hs x hx t ht) dX11_lease_7 ml_X11_109 yw_X10_faultOfLease rfl (by decide) (by omega) (by decide) rfl rfl rfl (Nat.le_of_ble_eq_true rfl) ?_
  rcases x_lease M s x t with ⟨hr, hf, hp, hp2, hp3⟩ | ⟨hz, E, hr, hE, hf⟩
  case inr => exact o_cSx _ (ct_X11_throwForB hl d o_N (o_mem g) (f_lease M s x t) hz E hf) dX11_lease_10 ml_X11_72 ys_X11_throwFor rfl (by decide) (by omega) (by omega) (by omega) rfl (Nat.le_of_ble_eq_true rfl) (o_T.out rfl (x_xN hr hE (by rw [if_neg hr, if_neg hr]; exact ⟨hxd, o_fr_r⟩)))
  refine o_cS _ (ct_X11_throwForA hl d o_N (o_mem g) (f_lease M s x t) hf) dX11_lease_10 ml_X11_72 ys_X11_throwFor rfl (by decide) (by omega) rfl (Nat.le_of_ble_eq_true rfl) ?_
  obtain ⟨j, hj⟩ : ∃ j : Nat, s = (j : Int) := ⟨s.toNat, by omega⟩
  obtain ⟨k, hk⟩ : ∃ k : Nat, x = (k : Int) := ⟨x.toNat, by omega⟩
  subst hj
  subst hk
  refine o_aload_n dX11_lease_13 rfl ?_
  refine o_gf dX11_lease_14 fl_X11_25 rfl (by decide) rfl ?_
  refine o_aload_n dX11_lease_17 rfl ?_
  refine o_gf dX11_lease_18 fl_X11_12 rfl (by decide) rfl ?_
  refine o_cVm _ (ct_X5_push hl d g P hxd.2.1 M 1 o_SB_1 (by decide) hst hws hwl hwq) dX11_lease_21 ml_X11_76 yw_X5_push rfl (by decide) (by omega) (by decide) rfl rfl rfl (Nat.le_of_ble_eq_true rfl) (fun g_21 q_21 => ?_)
  have hst1 := (x_push hxd q_21).1.1
  refine o_aload_n dX11_lease_24 rfl ?_
  refine o_gf dX11_lease_25 fl_X11_12 rfl (by decide) rfl ?_
  refine o_iload_n dX11_lease_28 rfl ?_
  refine o_iload_n dX11_lease_29 rfl ?_
  refine o_iload_n dX11_lease_30 rfl ?_
  refine o_cVm _ (ct_X10_leaseOut hl d g_21 M hst1 hwf j k (by omega) (by omega) t hp3) dX11_lease_31 ml_X11_113 yw_X10_leaseOut rfl (by decide) (by omega) (by decide) rfl rfl rfl (Nat.le_of_ble_eq_true rfl) (fun g_31 q_31 => ?_)
  refine o_ret1 dX11_lease_34 trivial ?_
  exact x_xI hr rfl (by rw [if_pos hr, if_pos hr]; exact x_done hxd q_21 q_31)
set_option maxRecDepth 100000 in
set_option maxHeartbeats 4000000 in
/-- requestRenewal() -/
theorem ct_X11_requestRenewal {l : Launch} (hl : l.stackTraces = false) (d : Nat) (g M : Nat → Nat → Int) (P : List (Nat → Nat → Int)) (S : Option (Nat → Nat → Int)) (T : Nat → Nat → Int) (hxd : o_xd g M P S T) (hwf : o_wf M) (x : Int) (hx : o_R x) (t : Int) (ht : o_R t) : o_Ct l yX11_requestRenewal wX11_requestRenewal (d + 4) o_no [.ref 0, .int (o_I x), .int (o_I t)] o_N (o_mem g) 1 6 (x_x ["java/lang/IndexOutOfBoundsException", "java/lang/IllegalArgumentException", "java/util/NoSuchElementException", "java/lang/IllegalStateException"] (r_req M x t) (.int (o_I (M 0 6))) (if r_req M x t = 0 then m_req M x t else M) (if r_req M x t = 0 then h_push P M else P) (S) (T) g) := by
  refine o_Ct.ofV hl mX11_requestRenewal (by decide +kernel) rfl rfl rfl (Nat.le_of_ble_eq_true rfl) ?_
  have hst := hxd.1
  obtain ⟨hrs, hrl, hrq, hg3, hg4, hg5, hg6⟩ := id hst
  obtain ⟨⟨hws, hwl, hwq, hwo, hwle, hwrq, hwrd⟩, hwh, hwc, hwe⟩ := id hwf
  have hs0 := hrs.1
  have hl0 := hrl.1
  have hq0 := hrq.1
  have hs1 := o_rs2 hrs
  have hl1 := o_rl6 hrl
  have hq1 := o_rq12 hrq
  obtain ⟨hw1, hw2, hw3⟩ := id hws
  obtain ⟨hw4, hw5, hw6, hw7, hw8⟩ := id hwl
  obtain ⟨hw9, hw10, hw11⟩ := id hwq
  have hwk := hwf.1
  refine o_aload_n dX11_requestRenewal_0 rfl ?_
  refine o_gf dX11_requestRenewal_1 fl_X11_12 rfl (by decide) rfl ?_
  refine o_iload_n dX11_requestRenewal_4 rfl ?_
  refine o_iload_n dX11_requestRenewal_5 rfl ?_
  refine o_cV _ (ct_X10_faultOfRequest hl d g M hst hwf x hx t ht (o_ps (fun i => M 9 i = x) (M 0 6).toNat) (o_ps_fst _ _)) dX11_requestRenewal_6 ml_X11_117 yw_X10_faultOfRequest rfl (by decide) (by omega) (by decide) rfl rfl rfl (Nat.le_of_ble_eq_true rfl) ?_
  rcases x_req M x t with ⟨hr, hf, hp, hp2, hp3, hp4⟩ | ⟨hz, E, hr, hE, hf⟩
  case inr => exact o_cSx _ (ct_X11_throwForB hl d o_N (o_mem g) (f_req M x t (o_ps (fun i => M 9 i = x) (M 0 6).toNat)) hz E hf) dX11_requestRenewal_9 ml_X11_72 ys_X11_throwFor rfl (by decide) (by omega) (by omega) (by omega) rfl (Nat.le_of_ble_eq_true rfl) (o_T.out rfl (x_xN hr hE (by rw [if_neg hr, if_neg hr]; exact ⟨hxd, o_fr_r⟩)))
  refine o_cS _ (ct_X11_throwForA hl d o_N (o_mem g) (f_req M x t (o_ps (fun i => M 9 i = x) (M 0 6).toNat)) hf) dX11_requestRenewal_9 ml_X11_72 ys_X11_throwFor rfl (by decide) (by omega) rfl (Nat.le_of_ble_eq_true rfl) ?_
  refine o_aload_n dX11_requestRenewal_12 rfl ?_
  refine o_gf dX11_requestRenewal_13 fl_X11_25 rfl (by decide) rfl ?_
  refine o_aload_n dX11_requestRenewal_16 rfl ?_
  refine o_gf dX11_requestRenewal_17 fl_X11_12 rfl (by decide) rfl ?_
  refine o_cVm _ (ct_X5_push hl d g P hxd.2.1 M 1 o_SB_1 (by decide) hst hws hwl hwq) dX11_requestRenewal_20 ml_X11_76 yw_X5_push rfl (by decide) (by omega) (by decide) rfl rfl rfl (Nat.le_of_ble_eq_true rfl) (fun g_20 q_20 => ?_)
  have hst1 := (x_push hxd q_20).1.1
  refine o_aload_n dX11_requestRenewal_23 rfl ?_
  refine o_gf dX11_requestRenewal_24 fl_X11_12 rfl (by decide) rfl ?_
  refine o_gf dX11_requestRenewal_27 fl_X11_121 rfl (by decide) rfl ?_
  refine o_iload_n dX11_requestRenewal_30 rfl ?_
  refine o_iload_n dX11_requestRenewal_31 rfl ?_
  refine o_cVm _ (ct_X8_append hl d g_20 M hst1 hwf x hx t ht (o_qlt hwk (j := x.toNat) (by omega) hp4)) dX11_requestRenewal_32 ml_X11_125 yw_X8_append rfl (by decide) (by omega) (by decide) rfl rfl rfl (Nat.le_of_ble_eq_true rfl) (fun g_32 q_32 => ?_)
  refine o_ret1 dX11_requestRenewal_35 trivial ?_
  exact x_xI hr rfl (by rw [if_pos hr, if_pos hr]; exact x_done hxd q_20 q_32)
set_option maxRecDepth 100000 in
set_option maxHeartbeats 4000000 in
/-- giveUp() -/
theorem ct_X11_giveUp {l : Launch} (hl : l.stackTraces = false) (d : Nat) (g M : Nat → Nat → Int) (P : List (Nat → Nat → Int)) (S : Option (Nat → Nat → Int)) (T : Nat → Nat → Int) (hxd : o_xd g M P S T) (hwf : o_wf M) (x : Int) (hx : o_R x) : o_Ct l yX11_giveUp wX11_giveUp (d + 4) o_no [.ref 0, .int (o_I x)] o_N (o_mem g) 1 6 (x_x ["java/lang/IndexOutOfBoundsException", "java/util/NoSuchElementException"] (r_unl M x) (.int (o_I (M 6 x.toNat - M 0 3))) (if r_unl M x = 0 then m_free M x.toNat else M) (if r_unl M x = 0 then h_push P M else P) (S) (T) g) := by
  refine o_Ct.ofV hl mX11_giveUp (by decide +kernel) rfl rfl rfl (Nat.le_of_ble_eq_true rfl) ?_
  have hst := hxd.1
  obtain ⟨hrs, hrl, hrq, hg3, hg4, hg5, hg6⟩ := id hst
  obtain ⟨⟨hws, hwl, hwq, hwo, hwle, hwrq, hwrd⟩, hwh, hwc, hwe⟩ := id hwf
  have hs0 := hrs.1
  have hl0 := hrl.1
  have hq0 := hrq.1
  have hs1 := o_rs2 hrs
  have hl1 := o_rl6 hrl
  have hq1 := o_rq12 hrq
  obtain ⟨hw1, hw2, hw3⟩ := id hws
  obtain ⟨hw4, hw5, hw6, hw7, hw8⟩ := id hwl
  obtain ⟨hw9, hw10, hw11⟩ := id hwq
  have hwk := hwf.1
  refine o_aload_n dX11_giveUp_0 rfl ?_
  refine o_gf dX11_giveUp_1 fl_X11_12 rfl (by decide) rfl ?_
  refine o_iload_n dX11_giveUp_4 rfl ?_
  refine o_cV _ (ct_X10_faultOfUnleased hl d g M hst hwf x hx) dX11_giveUp_5 ml_X11_130 yw_X10_faultOfUnleased rfl (by decide) (by omega) (by decide) rfl rfl rfl (Nat.le_of_ble_eq_true rfl) ?_
  rcases x_unl M x with ⟨hr, hf, hp, hp2⟩ | ⟨hz, E, hr, hE, hf⟩
  case inr => exact o_cSx _ (ct_X11_throwForB hl d o_N (o_mem g) (f_unl M x) hz E hf) dX11_giveUp_8 ml_X11_72 ys_X11_throwFor rfl (by decide) (by omega) (by omega) (by omega) rfl (Nat.le_of_ble_eq_true rfl) (o_T.out rfl (x_xN hr hE (by rw [if_neg hr, if_neg hr]; exact ⟨hxd, o_fr_r⟩)))
  refine o_cS _ (ct_X11_throwForA hl d o_N (o_mem g) (f_unl M x) hf) dX11_giveUp_8 ml_X11_72 ys_X11_throwFor rfl (by decide) (by omega) rfl (Nat.le_of_ble_eq_true rfl) ?_
  obtain ⟨j, hj⟩ : ∃ j : Nat, x = (j : Int) := ⟨x.toNat, by omega⟩
  subst hj
  refine o_aload_n dX11_giveUp_11 rfl ?_
  refine o_gf dX11_giveUp_12 fl_X11_25 rfl (by decide) rfl ?_
  refine o_aload_n dX11_giveUp_15 rfl ?_
  refine o_gf dX11_giveUp_16 fl_X11_12 rfl (by decide) rfl ?_
  refine o_cVm _ (ct_X5_push hl d g P hxd.2.1 M 1 o_SB_1 (by decide) hst hws hwl hwq) dX11_giveUp_19 ml_X11_76 yw_X5_push rfl (by decide) (by omega) (by decide) rfl rfl rfl (Nat.le_of_ble_eq_true rfl) (fun g_19 q_19 => ?_)
  have hst1 := (x_push hxd q_19).1.1
  refine o_aload_n dX11_giveUp_22 rfl ?_
  refine o_gf dX11_giveUp_23 fl_X11_12 rfl (by decide) rfl ?_
  refine o_iload_n dX11_giveUp_26 rfl ?_
  refine o_cVm _ (ct_X10_takeBack hl d g_19 M hst1 hwk j (by omega)) dX11_giveUp_27 ml_X11_133 yw_X10_takeBack rfl (by decide) (by omega) (by decide) rfl rfl rfl (Nat.le_of_ble_eq_true rfl) (fun g_27 q_27 => ?_)
  refine o_ret1 dX11_giveUp_30 trivial ?_
  exact x_xI hr rfl (by rw [if_pos hr, if_pos hr]; exact x_done hxd q_19 q_27)
set_option maxRecDepth 100000 in
set_option maxHeartbeats 4000000 in
/-- passHours() -/
theorem ct_X11_passHours {l : Launch} (hl : l.stackTraces = false) (d : Nat) (g M : Nat → Nat → Int) (P : List (Nat → Nat → Int)) (S : Option (Nat → Nat → Int)) (T : Nat → Nat → Int) (hxd : o_xd g M P S T) (hwf : o_wf M) (t : Int) (ht : o_R t) (hh : M 0 3 + 48 ≤ 1000000) : o_Ct l yX11_passHours wX11_passHours (d + 6) o_no [.ref 0, .int (o_I t)] o_N (o_mem g) 1 6 (x_x ["java/lang/IllegalArgumentException"] (r_wait t) (.int (o_I (n_pass M t.toNat))) (if r_wait t = 0 then m_pass M t.toNat else M) (if r_wait t = 0 then h_push P M else P) (S) (T) g) := by
  refine o_Ct.ofV hl mX11_passHours (by decide +kernel) rfl rfl rfl (Nat.le_of_ble_eq_true rfl) ?_
  have hst := hxd.1
  obtain ⟨hrs, hrl, hrq, hg3, hg4, hg5, hg6⟩ := id hst
  obtain ⟨⟨hws, hwl, hwq, hwo, hwle, hwrq, hwrd⟩, hwh, hwc, hwe⟩ := id hwf
  have hs0 := hrs.1
  have hl0 := hrl.1
  have hq0 := hrq.1
  have hs1 := o_rs2 hrs
  have hl1 := o_rl6 hrl
  have hq1 := o_rq12 hrq
  obtain ⟨hw1, hw2, hw3⟩ := id hws
  obtain ⟨hw4, hw5, hw6, hw7, hw8⟩ := id hwl
  obtain ⟨hw9, hw10, hw11⟩ := id hwq
  have hwk := hwf.1
  refine o_aload_n dX11_passHours_0 rfl ?_
  refine o_gf dX11_passHours_1 fl_X11_12 rfl (by decide) rfl ?_
  refine o_iload_n dX11_passHours_4 rfl ?_
  refine o_cV _ (ct_X10_faultOfWait hl d g M hst hwf t ht) dX11_passHours_5 ml_X11_136 yw_X10_faultOfWait rfl (by decide) (by omega) (by decide) rfl rfl rfl (Nat.le_of_ble_eq_true rfl) ?_
  rcases x_wait t with ⟨hr, hf, hp⟩ | ⟨hz, E, hr, hE, hf⟩
  case inr => exact o_cSx _ (ct_X11_throwForB hl d o_N (o_mem g) (f_wait t) hz E hf) dX11_passHours_8 ml_X11_72 ys_X11_throwFor rfl (by decide) (by omega) (by omega) (by omega) rfl (Nat.le_of_ble_eq_true rfl) (o_T.out rfl (x_xN hr hE (by rw [if_neg hr, if_neg hr]; exact ⟨hxd, o_fr_r⟩)))
  refine o_cS _ (ct_X11_throwForA hl d o_N (o_mem g) (f_wait t) hf) dX11_passHours_8 ml_X11_72 ys_X11_throwFor rfl (by decide) (by omega) rfl (Nat.le_of_ble_eq_true rfl) ?_
  refine o_aload_n dX11_passHours_11 rfl ?_
  refine o_gf dX11_passHours_12 fl_X11_25 rfl (by decide) rfl ?_
  refine o_aload_n dX11_passHours_15 rfl ?_
  refine o_gf dX11_passHours_16 fl_X11_12 rfl (by decide) rfl ?_
  refine o_cVm _ (ct_X5_push hl d g P hxd.2.1 M 1 o_SB_1 (by decide) hst hws hwl hwq) dX11_passHours_19 ml_X11_76 yw_X5_push rfl (by decide) (by omega) (by decide) rfl rfl rfl (Nat.le_of_ble_eq_true rfl) (fun g_19 q_19 => ?_)
  have hst1 := (x_push hxd q_19).1.1
  refine o_aload_n dX11_passHours_22 rfl ?_
  refine o_gf dX11_passHours_23 fl_X11_12 rfl (by decide) rfl ?_
  refine o_iload_n dX11_passHours_26 rfl ?_
  refine o_cVm _ (ct_X10_letPass hl d g_19 M hst1 hwf t (by omega) (by omega)) dX11_passHours_27 ml_X11_139 yw_X10_letPass rfl (by decide) (by omega) (by decide) rfl rfl rfl (Nat.le_of_ble_eq_true rfl) (fun g_27 q_27 => ?_)
  refine o_ret1 dX11_passHours_30 trivial ?_
  exact x_xI hr rfl (by rw [if_pos hr, if_pos hr]; exact x_done hxd q_19 q_27)
