/-! the class's office: questions -/
theorem n_hp_R {M : Nat → Nat → Int} : ∀ (F h : Nat) (o : Int), -1 ≤ n_hp M F h o ∧ n_hp M F h o ≤ (h + F : Nat) := by
  intro F
  induction F with
  | zero => intro h o; exact ⟨Int.le_refl _, by show (-1 : Int) ≤ _; omega⟩
  | succ F ih =>
    intro h o
    rw [n_hp]
    split
    · omega
    · split
      · omega
      · have := ih (h + 1) (o - m_D M (M 0 3 + h)); omega
theorem o_b_eq {p q : Prop} [Decidable p] [Decidable q] (h : p ↔ q) : o_b p = o_b q := by
  by_cases hp : p
  · rw [o_b1 hp, o_b1 (h.mp hp)]
  · rw [o_b0 hp, o_b0 (fun z => hp (h.mpr z))]
theorem x_unl (M : Nat → Nat → Int) (x : Int) : (r_unl M x = 0 ∧ f_unl M x = 32 ∧ (0 ≤ x ∧ x < M 0 1) ∧ 0 < M 5 x.toNat) ∨ (0 ≤ f_unl M x ∧ f_unl M x < 128) ∧ ∃ E, r_unl M x ≠ 0 ∧ ["java/lang/IndexOutOfBoundsException", "java/util/NoSuchElementException"][(r_unl M x - 1).toNat]? = some E ∧ x_fE (f_unl M x) = some E := by
  unfold r_unl f_unl
  by_cases h1 : 0 ≤ x ∧ x < M 0 1
  · rw [if_neg (not_not_intro h1), if_neg (not_not_intro h1)]
    by_cases h2 : 0 < M 5 x.toNat
    · rw [if_pos h2, if_pos h2]; exact Or.inl ⟨rfl, rfl, h1, h2⟩
    · rw [if_neg h2, if_neg h2]; exact Or.inr ⟨by decide, _, by decide, rfl, rfl⟩
  · rw [if_pos h1, if_pos h1]; exact Or.inr ⟨by decide, _, by decide, rfl, rfl⟩
set_option maxRecDepth 100000 in
set_option maxHeartbeats 4000000 in
/-- hour() -/
theorem ct_X11_hour {l : Launch} (hl : l.stackTraces = false) (d : Nat) (g M : Nat → Nat → Int) (P : List (Nat → Nat → Int)) (S : Option (Nat → Nat → Int)) (T : Nat → Nat → Int) (hxd : o_xd g M P S T) (hwf : o_wf M) : o_Ct l yX11_hour wX11_hour (d + 1) o_no [.ref 0] o_N (o_mem g) 0 0 (x_x [] (0) (.int (o_I (M 0 3))) (M) (P) (S) (T) g) := by
  refine o_Ct.ofV hl mX11_hour (by decide +kernel) rfl rfl rfl (Nat.le_of_ble_eq_true rfl) ?_
  have hst := hxd.1
  obtain ⟨hrs, hrl, hrq, hg3, hg4, hg5, hg6⟩ := id hst
  obtain ⟨⟨hws, hwl, hwq, hwo, hwle, hwrq, hwrd⟩, hwh, hwc, hwe⟩ := id hwf
  have hs0 := hrs.1
  have hl0 := hrl.1
  have hq0 := hrq.1
  have hs1 := o_rs2 hrs
  have hl1 := o_rl6 hrl
  have hq1 := o_rq12 hrq
  obtain ⟨hw1, hw2, hw3⟩ := id hws
  obtain ⟨hw4, hw5, hw6, hw7, hw8⟩ := id hwl
  obtain ⟨hw9, hw10, hw11⟩ := id hwq
  have hwk := hwf.1
  refine o_aload_n dX11_hour_0 rfl ?_
  refine o_gf dX11_hour_1 fl_X11_12 rfl (by decide) rfl ?_
  refine o_gf dX11_hour_4 fl_X11_142 rfl (by decide) rfl ?_
  refine o_ret1 dX11_hour_7 trivial ?_
  exact x_xI rfl hg4.symm ⟨hxd, o_fr_r⟩
set_option maxRecDepth 100000 in
set_option maxHeartbeats 4000000 in
/-- shipCount() -/
theorem ct_X11_shipCount {l : Launch} (hl : l.stackTraces = false) (d : Nat) (g M : Nat → Nat → Int) (P : List (Nat → Nat → Int)) (S : Option (Nat → Nat → Int)) (T : Nat → Nat → Int) (hxd : o_xd g M P S T) (hwf : o_wf M) : o_Ct l yX11_shipCount wX11_shipCount (d + 1) o_no [.ref 0] o_N (o_mem g) 0 0 (x_x [] (0) (.int (o_I (M 0 0))) (M) (P) (S) (T) g) := by
  refine o_Ct.ofV hl mX11_shipCount (by decide +kernel) rfl rfl rfl (Nat.le_of_ble_eq_true rfl) ?_
  have hst := hxd.1
  obtain ⟨hrs, hrl, hrq, hg3, hg4, hg5, hg6⟩ := id hst
  obtain ⟨⟨hws, hwl, hwq, hwo, hwle, hwrq, hwrd⟩, hwh, hwc, hwe⟩ := id hwf
  have hs0 := hrs.1
  have hl0 := hrl.1
  have hq0 := hrq.1
  have hs1 := o_rs2 hrs
  have hl1 := o_rl6 hrl
  have hq1 := o_rq12 hrq
  obtain ⟨hw1, hw2, hw3⟩ := id hws
  obtain ⟨hw4, hw5, hw6, hw7, hw8⟩ := id hwl
  obtain ⟨hw9, hw10, hw11⟩ := id hwq
  have hwk := hwf.1
  refine o_aload_n dX11_shipCount_0 rfl ?_
  refine o_gf dX11_shipCount_1 fl_X11_12 rfl (by decide) rfl ?_
  refine o_gf dX11_shipCount_4 fl_X11_80 rfl (by decide) rfl ?_
  refine o_gf dX11_shipCount_7 fl_X11_145 rfl (by decide) rfl ?_
  refine o_ret1 dX11_shipCount_10 trivial ?_
  exact x_xI rfl hs0.symm ⟨hxd, o_fr_r⟩
set_option maxRecDepth 100000 in
set_option maxHeartbeats 4000000 in
/-- lampCount() -/
theorem ct_X11_lampCount {l : Launch} (hl : l.stackTraces = false) (d : Nat) (g M : Nat → Nat → Int) (P : List (Nat → Nat → Int)) (S : Option (Nat → Nat → Int)) (T : Nat → Nat → Int) (hxd : o_xd g M P S T) (hwf : o_wf M) : o_Ct l yX11_lampCount wX11_lampCount (d + 1) o_no [.ref 0] o_N (o_mem g) 0 0 (x_x [] (0) (.int (o_I (M 0 1))) (M) (P) (S) (T) g) := by
  refine o_Ct.ofV hl mX11_lampCount (by decide +kernel) rfl rfl rfl (Nat.le_of_ble_eq_true rfl) ?_
  have hst := hxd.1
  obtain ⟨hrs, hrl, hrq, hg3, hg4, hg5, hg6⟩ := id hst
  obtain ⟨⟨hws, hwl, hwq, hwo, hwle, hwrq, hwrd⟩, hwh, hwc, hwe⟩ := id hwf
  have hs0 := hrs.1
  have hl0 := hrl.1
  have hq0 := hrq.1
  have hs1 := o_rs2 hrs
  have hl1 := o_rl6 hrl
  have hq1 := o_rq12 hrq
  obtain ⟨hw1, hw2, hw3⟩ := id hws
  obtain ⟨hw4, hw5, hw6, hw7, hw8⟩ := id hwl
  obtain ⟨hw9, hw10, hw11⟩ := id hwq
  have hwk := hwf.1
  refine o_aload_n dX11_lampCount_0 rfl ?_
  refine o_gf dX11_lampCount_1 fl_X11_12 rfl (by decide) rfl ?_
  refine o_gf dX11_lampCount_4 fl_X11_94 rfl (by decide) rfl ?_
  refine o_gf dX11_lampCount_7 fl_X11_168 rfl (by decide) rfl ?_
  refine o_ret1 dX11_lampCount_10 trivial ?_
  exact x_xI rfl hl0.symm ⟨hxd, o_fr_r⟩
set_option maxRecDepth 100000 in
set_option maxHeartbeats 4000000 in
/-- oil() -/
theorem ct_X11_oil {l : Launch} (hl : l.stackTraces = false) (d : Nat) (g M : Nat → Nat → Int) (P : List (Nat → Nat → Int)) (S : Option (Nat → Nat → Int)) (T : Nat → Nat → Int) (hxd : o_xd g M P S T) (hwf : o_wf M) : o_Ct l yX11_oil wX11_oil (d + 1) o_no [.ref 0] o_N (o_mem g) 0 0 (x_x [] (0) (.int (o_I (M 0 2))) (M) (P) (S) (T) g) := by
  refine o_Ct.ofV hl mX11_oil (by decide +kernel) rfl rfl rfl (Nat.le_of_ble_eq_true rfl) ?_
  have hst := hxd.1
  obtain ⟨hrs, hrl, hrq, hg3, hg4, hg5, hg6⟩ := id hst
  obtain ⟨⟨hws, hwl, hwq, hwo, hwle, hwrq, hwrd⟩, hwh, hwc, hwe⟩ := id hwf
  have hs0 := hrs.1
  have hl0 := hrl.1
  have hq0 := hrq.1
  have hs1 := o_rs2 hrs
  have hl1 := o_rl6 hrl
  have hq1 := o_rq12 hrq
  obtain ⟨hw1, hw2, hw3⟩ := id hws
  obtain ⟨hw4, hw5, hw6, hw7, hw8⟩ := id hwl
  obtain ⟨hw9, hw10, hw11⟩ := id hwq
  have hwk := hwf.1
  refine o_aload_n dX11_oil_0 rfl ?_
  refine o_gf dX11_oil_1 fl_X11_12 rfl (by decide) rfl ?_
  refine o_gf dX11_oil_4 fl_X11_195 rfl (by decide) rfl ?_
  refine o_ret1 dX11_oil_7 trivial ?_
  exact x_xI rfl hg3.symm ⟨hxd, o_fr_r⟩
set_option maxRecDepth 100000 in
set_option maxHeartbeats 4000000 in
/-- requestCount() -/
theorem ct_X11_requestCount {l : Launch} (hl : l.stackTraces = false) (d : Nat) (g M : Nat → Nat → Int) (P : List (Nat → Nat → Int)) (S : Option (Nat → Nat → Int)) (T : Nat → Nat → Int) (hxd : o_xd g M P S T) (hwf : o_wf M) : o_Ct l yX11_requestCount wX11_requestCount (d + 1) o_no [.ref 0] o_N (o_mem g) 0 0 (x_x [] (0) (.int (o_I (M 0 6))) (M) (P) (S) (T) g) := by
  refine o_Ct.ofV hl mX11_requestCount (by decide +kernel) rfl rfl rfl (Nat.le_of_ble_eq_true rfl) ?_
  have hst := hxd.1
  obtain ⟨hrs, hrl, hrq, hg3, hg4, hg5, hg6⟩ := id hst
  obtain ⟨⟨hws, hwl, hwq, hwo, hwle, hwrq, hwrd⟩, hwh, hwc, hwe⟩ := id hwf
  have hs0 := hrs.1
  have hl0 := hrl.1
  have hq0 := hrq.1
  have hs1 := o_rs2 hrs
  have hl1 := o_rl6 hrl
  have hq1 := o_rq12 hrq
  obtain ⟨hw1, hw2, hw3⟩ := id hws
  obtain ⟨hw4, hw5, hw6, hw7, hw8⟩ := id hwl
  obtain ⟨hw9, hw10, hw11⟩ := id hwq
  have hwk := hwf.1
  refine o_aload_n dX11_requestCount_0 rfl ?_
  refine o_gf dX11_requestCount_1 fl_X11_12 rfl (by decide) rfl ?_
  refine o_gf dX11_requestCount_4 fl_X11_121 rfl (by decide) rfl ?_
  refine o_gf dX11_requestCount_7 fl_X11_227 rfl (by decide) rfl ?_
  refine o_ret1 dX11_requestCount_10 trivial ?_
  exact x_xI rfl hq0.symm ⟨hxd, o_fr_r⟩
set_option maxRecDepth 100000 in
set_option maxHeartbeats 4000000 in
/-- refusedRenewals() -/
theorem ct_X11_refusedRenewals {l : Launch} (hl : l.stackTraces = false) (d : Nat) (g M : Nat → Nat → Int) (P : List (Nat → Nat → Int)) (S : Option (Nat → Nat → Int)) (T : Nat → Nat → Int) (hxd : o_xd g M P S T) (hwf : o_wf M) : o_Ct l yX11_refusedRenewals wX11_refusedRenewals (d + 1) o_no [.ref 0] o_N (o_mem g) 0 0 (x_x [] (0) (.int (o_I (M 0 4))) (M) (P) (S) (T) g) := by
  refine o_Ct.ofV hl mX11_refusedRenewals (by decide +kernel) rfl rfl rfl (Nat.le_of_ble_eq_true rfl) ?_
  have hst := hxd.1
  obtain ⟨hrs, hrl, hrq, hg3, hg4, hg5, hg6⟩ := id hst
  obtain ⟨⟨hws, hwl, hwq, hwo, hwle, hwrq, hwrd⟩, hwh, hwc, hwe⟩ := id hwf
  have hs0 := hrs.1
  have hl0 := hrl.1
  have hq0 := hrq.1
  have hs1 := o_rs2 hrs
  have hl1 := o_rl6 hrl
  have hq1 := o_rq12 hrq
  obtain ⟨hw1, hw2, hw3⟩ := id hws
  obtain ⟨hw4, hw5, hw6, hw7, hw8⟩ := id hwl
  obtain ⟨hw9, hw10, hw11⟩ := id hwq
  have hwk := hwf.1
  refine o_aload_n dX11_refusedRenewals_0 rfl ?_
  refine o_gf dX11_refusedRenewals_1 fl_X11_12 rfl (by decide) rfl ?_
  refine o_gf dX11_refusedRenewals_4 fl_X11_236 rfl (by decide) rfl ?_
  refine o_ret1 dX11_refusedRenewals_7 trivial ?_
  exact x_xI rfl hg6.symm ⟨hxd, o_fr_r⟩
set_option maxRecDepth 100000 in
set_option maxHeartbeats 4000000 in
/-- officeCoins() -/
theorem ct_X11_officeCoins {l : Launch} (hl : l.stackTraces = false) (d : Nat) (g M : Nat → Nat → Int) (P : List (Nat → Nat → Int)) (S : Option (Nat → Nat → Int)) (T : Nat → Nat → Int) (hxd : o_xd g M P S T) (hwf : o_wf M) : o_Ct l yX11_officeCoins wX11_officeCoins (d + 1) o_no [.ref 0] o_N (o_mem g) 0 0 (x_x [] (0) (.int (o_I (M 0 5))) (M) (P) (S) (T) g) := by
  refine o_Ct.ofV hl mX11_officeCoins (by decide +kernel) rfl rfl rfl (Nat.le_of_ble_eq_true rfl) ?_
  have hst := hxd.1
  obtain ⟨hrs, hrl, hrq, hg3, hg4, hg5, hg6⟩ := id hst
  obtain ⟨⟨hws, hwl, hwq, hwo, hwle, hwrq, hwrd⟩, hwh, hwc, hwe⟩ := id hwf
  have hs0 := hrs.1
  have hl0 := hrl.1
  have hq0 := hrq.1
  have hs1 := o_rs2 hrs
  have hl1 := o_rl6 hrl
  have hq1 := o_rq12 hrq
  obtain ⟨hw1, hw2, hw3⟩ := id hws
  obtain ⟨hw4, hw5, hw6, hw7, hw8⟩ := id hwl
  obtain ⟨hw9, hw10, hw11⟩ := id hwq
  have hwk := hwf.1
  refine o_aload_n dX11_officeCoins_0 rfl ?_
  refine o_gf dX11_officeCoins_1 fl_X11_12 rfl (by decide) rfl ?_
  refine o_gf dX11_officeCoins_4 fl_X11_239 rfl (by decide) rfl ?_
  refine o_ret1 dX11_officeCoins_7 trivial ?_
  exact x_xI rfl hg5.symm ⟨hxd, o_fr_r⟩
set_option maxRecDepth 100000 in
set_option maxHeartbeats 4000000 in
/-- undoCount() -/
theorem ct_X11_undoCount {l : Launch} (hl : l.stackTraces = false) (d : Nat) (g M : Nat → Nat → Int) (P : List (Nat → Nat → Int)) (S : Option (Nat → Nat → Int)) (T : Nat → Nat → Int) (hxd : o_xd g M P S T) (hwf : o_wf M) : o_Ct l yX11_undoCount wX11_undoCount (d + 1) o_no [.ref 0] o_N (o_mem g) 0 0 (x_x [] (0) (.int (o_I (P.length : Int))) (M) (P) (S) (T) g) := by
  refine o_Ct.ofV hl mX11_undoCount (by decide +kernel) rfl rfl rfl (Nat.le_of_ble_eq_true rfl) ?_
  have hst := hxd.1
  obtain ⟨hrs, hrl, hrq, hg3, hg4, hg5, hg6⟩ := id hst
  obtain ⟨⟨hws, hwl, hwq, hwo, hwle, hwrq, hwrd⟩, hwh, hwc, hwe⟩ := id hwf
  have hs0 := hrs.1
  have hl0 := hrl.1
  have hq0 := hrq.1
  have hs1 := o_rs2 hrs
  have hl1 := o_rl6 hrl
  have hq1 := o_rq12 hrq
  obtain ⟨hw1, hw2, hw3⟩ := id hws
  obtain ⟨hw4, hw5, hw6, hw7, hw8⟩ := id hwl
  obtain ⟨hw9, hw10, hw11⟩ := id hwq
  have hwk := hwf.1
  refine o_aload_n dX11_undoCount_0 rfl ?_
  refine o_gf dX11_undoCount_1 fl_X11_25 rfl (by decide) rfl ?_
  refine o_gf dX11_undoCount_4 fl_X11_372 rfl (by decide) rfl ?_
  refine o_ret1 dX11_undoCount_7 trivial ?_
  obtain ⟨o, h1, h2, h3, h4, h5⟩ := hxd.2.1
  exact x_xI rfl h3.symm ⟨hxd, o_fr_r⟩
set_option maxRecDepth 100000 in
set_option maxHeartbeats 4000000 in
/-- leasedLamps() -/
theorem ct_X11_leasedLamps {l : Launch} (hl : l.stackTraces = false) (d : Nat) (g M : Nat → Nat → Int) (P : List (Nat → Nat → Int)) (S : Option (Nat → Nat → Int)) (T : Nat → Nat → Int) (hxd : o_xd g M P S T) (hwf : o_wf M) : o_Ct l yX11_leasedLamps wX11_leasedLamps (d + 3) o_no [.ref 0] o_N (o_mem g) 0 0 (x_x [] (0) (.int (o_I (o_sm (fun i => o_b (0 < M 5 i)) (M 0 1).toNat))) (M) (P) (S) (T) g) := by
  refine o_Ct.ofV hl mX11_leasedLamps (by decide +kernel) rfl rfl rfl (Nat.le_of_ble_eq_true rfl) ?_
  have hst := hxd.1
  obtain ⟨hrs, hrl, hrq, hg3, hg4, hg5, hg6⟩ := id hst
  obtain ⟨⟨hws, hwl, hwq, hwo, hwle, hwrq, hwrd⟩, hwh, hwc, hwe⟩ := id hwf
  have hs0 := hrs.1
  have hl0 := hrl.1
  have hq0 := hrq.1
  have hs1 := o_rs2 hrs
  have hl1 := o_rl6 hrl
  have hq1 := o_rq12 hrq
  obtain ⟨hw1, hw2, hw3⟩ := id hws
  obtain ⟨hw4, hw5, hw6, hw7, hw8⟩ := id hwl
  obtain ⟨hw9, hw10, hw11⟩ := id hwq
  have hwk := hwf.1
  refine o_aload_n dX11_leasedLamps_0 rfl ?_
  refine o_gf dX11_leasedLamps_1 fl_X11_12 rfl (by decide) rfl ?_
  refine o_gf dX11_leasedLamps_4 fl_X11_94 rfl (by decide) rfl ?_
  refine o_cV _ (ct_X7_countTaken hl d g M hrl hwl) dX11_leasedLamps_7 ml_X11_192 yw_X7_countTaken rfl (by decide) (by omega) (by decide) rfl rfl rfl (Nat.le_of_ble_eq_true rfl) ?_
  refine o_ret1 dX11_leasedLamps_10 trivial ?_
  exact x_xY rfl ⟨hxd, o_fr_r⟩
set_option maxRecDepth 100000 in
set_option maxHeartbeats 4000000 in
/-- consumption() -/
theorem ct_X11_consumption {l : Launch} (hl : l.stackTraces = false) (d : Nat) (g M : Nat → Nat → Int) (P : List (Nat → Nat → Int)) (S : Option (Nat → Nat → Int)) (T : Nat → Nat → Int) (hxd : o_xd g M P S T) (hwf : o_wf M) : o_Ct l yX11_consumption wX11_consumption (d + 3) o_no [.ref 0] o_N (o_mem g) 0 0 (x_x [] (0) (.int (o_I (d_all M))) (M) (P) (S) (T) g) := by
  refine o_Ct.ofV hl mX11_consumption (by decide +kernel) rfl rfl rfl (Nat.le_of_ble_eq_true rfl) ?_
  have hst := hxd.1
  obtain ⟨hrs, hrl, hrq, hg3, hg4, hg5, hg6⟩ := id hst
  obtain ⟨⟨hws, hwl, hwq, hwo, hwle, hwrq, hwrd⟩, hwh, hwc, hwe⟩ := id hwf
  have hs0 := hrs.1
  have hl0 := hrl.1
  have hq0 := hrq.1
  have hs1 := o_rs2 hrs
  have hl1 := o_rl6 hrl
  have hq1 := o_rq12 hrq
  obtain ⟨hw1, hw2, hw3⟩ := id hws
  obtain ⟨hw4, hw5, hw6, hw7, hw8⟩ := id hwl
  obtain ⟨hw9, hw10, hw11⟩ := id hwq
  have hwk := hwf.1
  refine o_aload_n dX11_consumption_0 rfl ?_
  refine o_gf dX11_consumption_1 fl_X11_12 rfl (by decide) rfl ?_
  refine o_gf dX11_consumption_4 fl_X11_94 rfl (by decide) rfl ?_
  refine o_cV _ (ct_X7_demandOfAll hl d g M hrl hwl) dX11_consumption_7 ml_X11_198 yw_X7_demandOfAll rfl (by decide) (by omega) (by decide) rfl rfl rfl (Nat.le_of_ble_eq_true rfl) ?_
  refine o_ret1 dX11_consumption_10 trivial ?_
  exact x_xY rfl ⟨hxd, o_fr_r⟩
set_option maxRecDepth 100000 in
set_option maxHeartbeats 4000000 in
/-- brightNext() -/
theorem ct_X11_brightNext {l : Launch} (hl : l.stackTraces = false) (d : Nat) (g M : Nat → Nat → Int) (P : List (Nat → Nat → Int)) (S : Option (Nat → Nat → Int)) (T : Nat → Nat → Int) (hxd : o_xd g M P S T) (hwf : o_wf M) : o_Ct l yX11_brightNext wX11_brightNext (d + 3) o_no [.ref 0] o_N (o_mem g) 0 0 (x_x [] (0) (.int (o_I (n_bc M (M 0 1).toNat))) (M) (P) (S) (T) g) := by
  refine o_Ct.ofV hl mX11_brightNext (by decide +kernel) rfl rfl rfl (Nat.le_of_ble_eq_true rfl) ?_
  have hst := hxd.1
  obtain ⟨hrs, hrl, hrq, hg3, hg4, hg5, hg6⟩ := id hst
  obtain ⟨⟨hws, hwl, hwq, hwo, hwle, hwrq, hwrd⟩, hwh, hwc, hwe⟩ := id hwf
  have hs0 := hrs.1
  have hl0 := hrl.1
  have hq0 := hrq.1
  have hs1 := o_rs2 hrs
  have hl1 := o_rl6 hrl
  have hq1 := o_rq12 hrq
  obtain ⟨hw1, hw2, hw3⟩ := id hws
  obtain ⟨hw4, hw5, hw6, hw7, hw8⟩ := id hwl
  obtain ⟨hw9, hw10, hw11⟩ := id hwq
  have hwk := hwf.1
  refine o_aload_n dX11_brightNext_0 rfl ?_
  refine o_gf dX11_brightNext_1 fl_X11_32 rfl (by decide) rfl ?_
  refine o_aload_n dX11_brightNext_4 rfl ?_
  refine o_gf dX11_brightNext_5 fl_X11_12 rfl (by decide) rfl ?_
  refine o_cV _ (ct_X4_nextBrightLamps hl d g M hst hwk) dX11_brightNext_8 ml_X11_211 yw_X4_nextBrightLamps rfl (by decide) (by omega) (by decide) rfl rfl rfl (Nat.le_of_ble_eq_true rfl) ?_
  refine o_ret1 dX11_brightNext_11 trivial ?_
  exact x_xY rfl ⟨hxd, o_fr_r⟩
set_option maxRecDepth 100000 in
set_option maxHeartbeats 4000000 in
/-- mostBright() -/
theorem ct_X11_mostBright {l : Launch} (hl : l.stackTraces = false) (d : Nat) (g M : Nat → Nat → Int) (P : List (Nat → Nat → Int)) (S : Option (Nat → Nat → Int)) (T : Nat → Nat → Int) (hxd : o_xd g M P S T) (hwf : o_wf M) : o_Ct l yX11_mostBright wX11_mostBright (d + 3) o_no [.ref 0] o_N (o_mem g) 0 0 (x_x [] (0) (.int (o_I (n_oc M 3))) (M) (P) (S) (T) g) := by
  refine o_Ct.ofV hl mX11_mostBright (by decide +kernel) rfl rfl rfl (Nat.le_of_ble_eq_true rfl) ?_
  have hst := hxd.1
  obtain ⟨hrs, hrl, hrq, hg3, hg4, hg5, hg6⟩ := id hst
  obtain ⟨⟨hws, hwl, hwq, hwo, hwle, hwrq, hwrd⟩, hwh, hwc, hwe⟩ := id hwf
  have hs0 := hrs.1
  have hl0 := hrl.1
  have hq0 := hrq.1
  have hs1 := o_rs2 hrs
  have hl1 := o_rl6 hrl
  have hq1 := o_rq12 hrq
  obtain ⟨hw1, hw2, hw3⟩ := id hws
  obtain ⟨hw4, hw5, hw6, hw7, hw8⟩ := id hwl
  obtain ⟨hw9, hw10, hw11⟩ := id hwq
  have hwk := hwf.1
  refine o_aload_n dX11_mostBright_0 rfl ?_
  refine o_gf dX11_mostBright_1 fl_X11_32 rfl (by decide) rfl ?_
  refine o_aload_n dX11_mostBright_4 rfl ?_
  refine o_gf dX11_mostBright_5 fl_X11_12 rfl (by decide) rfl ?_
  refine o_cV _ (ct_X4_mostLampsByLevels hl d g M hst hwk) dX11_mostBright_8 ml_X11_214 yw_X4_mostLampsByLevels rfl (by decide) (by omega) (by decide) rfl rfl rfl (Nat.le_of_ble_eq_true rfl) ?_
  refine o_ret1 dX11_mostBright_11 trivial ?_
  exact x_xY rfl ⟨hxd, o_fr_r⟩
set_option maxRecDepth 100000 in
set_option maxHeartbeats 4000000 in
/-- mostBrightBySums() -/
theorem ct_X11_mostBrightBySums {l : Launch} (hl : l.stackTraces = false) (d : Nat) (g M : Nat → Nat → Int) (P : List (Nat → Nat → Int)) (S : Option (Nat → Nat → Int)) (T : Nat → Nat → Int) (hxd : o_xd g M P S T) (hwf : o_wf M) : o_Ct l yX11_mostBrightBySums wX11_mostBrightBySums (d + 3) o_no [.ref 0] o_N (o_mem g) 0 0 (x_x [] (0) (.int (o_I (n_oc M 3))) (M) (P) (S) (T) g) := by
  refine o_Ct.ofV hl mX11_mostBrightBySums (by decide +kernel) rfl rfl rfl (Nat.le_of_ble_eq_true rfl) ?_
  have hst := hxd.1
  obtain ⟨hrs, hrl, hrq, hg3, hg4, hg5, hg6⟩ := id hst
  obtain ⟨⟨hws, hwl, hwq, hwo, hwle, hwrq, hwrd⟩, hwh, hwc, hwe⟩ := id hwf
  have hs0 := hrs.1
  have hl0 := hrl.1
  have hq0 := hrq.1
  have hs1 := o_rs2 hrs
  have hl1 := o_rl6 hrl
  have hq1 := o_rq12 hrq
  obtain ⟨hw1, hw2, hw3⟩ := id hws
  obtain ⟨hw4, hw5, hw6, hw7, hw8⟩ := id hwl
  obtain ⟨hw9, hw10, hw11⟩ := id hwq
  have hwk := hwf.1
  refine o_aload_n dX11_mostBrightBySums_0 rfl ?_
  refine o_gf dX11_mostBrightBySums_1 fl_X11_32 rfl (by decide) rfl ?_
  refine o_aload_n dX11_mostBrightBySums_4 rfl ?_
  refine o_gf dX11_mostBrightBySums_5 fl_X11_12 rfl (by decide) rfl ?_
  refine o_cVm _ (ct_X4_mostLampsByTable hl d g M hst hwk) dX11_mostBrightBySums_8 ml_X11_217 yw_X4_mostLampsByTable rfl (by decide) (by omega) (by decide) rfl rfl rfl (Nat.le_of_ble_eq_true rfl) (fun g_8 q_8 => ?_)
  refine o_ret1 dX11_mostBrightBySums_11 trivial ?_
  exact x_xI rfl (t_most hwk).symm (o_xd_k hxd (o_fr_m q_8 (fun a ha => by have : a = 158 := ha; omega)))
set_option maxRecDepth 100000 in
set_option maxHeartbeats 4000000 in
/-- coins(i) -/
theorem ct_X11_coins {l : Launch} (hl : l.stackTraces = false) (d : Nat) (g M : Nat → Nat → Int) (P : List (Nat → Nat → Int)) (S : Option (Nat → Nat → Int)) (T : Nat → Nat → Int) (hxd : o_xd g M P S T) (hwf : o_wf M) (i : Int) (hi : o_R i) : o_Ct l yX11_coins wX11_coins (d + 3) o_no [.ref 0, .int (o_I i)] o_N (o_mem g) 1 6 (x_x ["java/lang/IndexOutOfBoundsException"] (1 - o_b (0 ≤ i ∧ i < M 0 0)) (.int (o_I (M 1 i.toNat))) (M) (P) (S) (T) g) := by
  refine o_Ct.ofV hl mX11_coins (by decide +kernel) rfl rfl rfl (Nat.le_of_ble_eq_true rfl) ?_
  have hst := hxd.1
  obtain ⟨hrs, hrl, hrq, hg3, hg4, hg5, hg6⟩ := id hst
  obtain ⟨⟨hws, hwl, hwq, hwo, hwle, hwrq, hwrd⟩, hwh, hwc, hwe⟩ := id hwf
  have hs0 := hrs.1
  have hl0 := hrl.1
  have hq0 := hrq.1
  have hs1 := o_rs2 hrs
  have hl1 := o_rl6 hrl
  have hq1 := o_rq12 hrq
  obtain ⟨hw1, hw2, hw3⟩ := id hws
  obtain ⟨hw4, hw5, hw6, hw7, hw8⟩ := id hwl
  obtain ⟨hw9, hw10, hw11⟩ := id hwq
  have hwk := hwf.1
  refine o_aload_n dX11_coins_0 rfl ?_
  refine o_iload_n dX11_coins_1 rfl ?_
  by_cases hp : 0 ≤ i ∧ i < M 0 0
  case neg => exact o_cVx _ (ct_X11_throwUnlessShipB hl d g M hst hwk i hi hp) dX11_coins_2 ml_X11_148 yw_X11_throwUnlessShip rfl (by decide) (by omega) (by omega) (by omega) (by decide) rfl rfl rfl (Nat.le_of_ble_eq_true rfl) (o_T.out rfl (x_qN hp ⟨hxd, o_fr_r⟩))
  refine o_cV _ (ct_X11_throwUnlessShipA hl d g M hst hwk i hi hp) dX11_coins_2 ml_X11_148 yw_X11_throwUnlessShip rfl (by decide) (by omega) (by decide) rfl rfl rfl (Nat.le_of_ble_eq_true rfl) ?_
  obtain ⟨j, hj⟩ : ∃ j : Nat, i = (j : Int) := ⟨i.toNat, by omega⟩
  subst hj
  refine o_aload_n dX11_coins_5 rfl ?_
  refine o_gf dX11_coins_6 fl_X11_12 rfl (by decide) rfl ?_
  refine o_gf dX11_coins_9 fl_X11_80 rfl (by decide) rfl ?_
  refine o_gf dX11_coins_12 fl_X11_152 rfl (by decide) rfl ?_
  refine o_iload_n dX11_coins_15 rfl ?_
  refine o_ialdn (j := j) dX11_coins_16 (by decide) rfl (by decide) (by first | rfl | omega) (by omega) ?_
  refine o_ret1 dX11_coins_17 trivial ?_
  exact x_qI hp (by rw [Int.toNat_natCast, (hs1 j (by omega)).1]) ⟨hxd, o_fr_r⟩
set_option maxRecDepth 100000 in
set_option maxHeartbeats 4000000 in
/-- finesPaid(i) -/
theorem ct_X11_finesPaid {l : Launch} (hl : l.stackTraces = false) (d : Nat) (g M : Nat → Nat → Int) (P : List (Nat → Nat → Int)) (S : Option (Nat → Nat → Int)) (T : Nat → Nat → Int) (hxd : o_xd g M P S T) (hwf : o_wf M) (i : Int) (hi : o_R i) : o_Ct l yX11_finesPaid wX11_finesPaid (d + 3) o_no [.ref 0, .int (o_I i)] o_N (o_mem g) 1 6 (x_x ["java/lang/IndexOutOfBoundsException"] (1 - o_b (0 ≤ i ∧ i < M 0 0)) (.int (o_I (M 2 i.toNat))) (M) (P) (S) (T) g) := by
  refine o_Ct.ofV hl mX11_finesPaid (by decide +kernel) rfl rfl rfl (Nat.le_of_ble_eq_true rfl) ?_
  have hst := hxd.1
  obtain ⟨hrs, hrl, hrq, hg3, hg4, hg5, hg6⟩ := id hst
  obtain ⟨⟨hws, hwl, hwq, hwo, hwle, hwrq, hwrd⟩, hwh, hwc, hwe⟩ := id hwf
  have hs0 := hrs.1
  have hl0 := hrl.1
  have hq0 := hrq.1
  have hs1 := o_rs2 hrs
  have hl1 := o_rl6 hrl
  have hq1 := o_rq12 hrq
  obtain ⟨hw1, hw2, hw3⟩ := id hws
  obtain ⟨hw4, hw5, hw6, hw7, hw8⟩ := id hwl
  obtain ⟨hw9, hw10, hw11⟩ := id hwq
  have hwk := hwf.1
  refine o_aload_n dX11_finesPaid_0 rfl ?_
  refine o_iload_n dX11_finesPaid_1 rfl ?_
  by_cases hp : 0 ≤ i ∧ i < M 0 0
  case neg => exact o_cVx _ (ct_X11_throwUnlessShipB hl d g M hst hwk i hi hp) dX11_finesPaid_2 ml_X11_148 yw_X11_throwUnlessShip rfl (by decide) (by omega) (by omega) (by omega) (by decide) rfl rfl rfl (Nat.le_of_ble_eq_true rfl) (o_T.out rfl (x_qN hp ⟨hxd, o_fr_r⟩))
  refine o_cV _ (ct_X11_throwUnlessShipA hl d g M hst hwk i hi hp) dX11_finesPaid_2 ml_X11_148 yw_X11_throwUnlessShip rfl (by decide) (by omega) (by decide) rfl rfl rfl (Nat.le_of_ble_eq_true rfl) ?_
  obtain ⟨j, hj⟩ : ∃ j : Nat, i = (j : Int) := ⟨i.toNat, by omega⟩
  subst hj
  refine o_aload_n dX11_finesPaid_5 rfl ?_
  refine o_gf dX11_finesPaid_6 fl_X11_12 rfl (by decide) rfl ?_
  refine o_gf dX11_finesPaid_9 fl_X11_80 rfl (by decide) rfl ?_
  refine o_gf dX11_finesPaid_12 fl_X11_156 rfl (by decide) rfl ?_
  refine o_iload_n dX11_finesPaid_15 rfl ?_
  refine o_ialdn (j := j) dX11_finesPaid_16 (by decide) rfl (by decide) (by first | rfl | omega) (by omega) ?_
  refine o_ret1 dX11_finesPaid_17 trivial ?_
  exact x_qI hp (by rw [Int.toNat_natCast, (hs1 j (by omega)).2.1]) ⟨hxd, o_fr_r⟩
set_option maxRecDepth 100000 in
set_option maxHeartbeats 4000000 in
/-- darkHours(i) -/
theorem ct_X11_darkHours {l : Launch} (hl : l.stackTraces = false) (d : Nat) (g M : Nat → Nat → Int) (P : List (Nat → Nat → Int)) (S : Option (Nat → Nat → Int)) (T : Nat → Nat → Int) (hxd : o_xd g M P S T) (hwf : o_wf M) (i : Int) (hi : o_R i) : o_Ct l yX11_darkHours wX11_darkHours (d + 3) o_no [.ref 0, .int (o_I i)] o_N (o_mem g) 1 6 (x_x ["java/lang/IndexOutOfBoundsException"] (1 - o_b (0 ≤ i ∧ i < M 0 0)) (.int (o_I (M 3 i.toNat))) (M) (P) (S) (T) g) := by
  refine o_Ct.ofV hl mX11_darkHours (by decide +kernel) rfl rfl rfl (Nat.le_of_ble_eq_true rfl) ?_
  have hst := hxd.1
  obtain ⟨hrs, hrl, hrq, hg3, hg4, hg5, hg6⟩ := id hst
  obtain ⟨⟨hws, hwl, hwq, hwo, hwle, hwrq, hwrd⟩, hwh, hwc, hwe⟩ := id hwf
  have hs0 := hrs.1
  have hl0 := hrl.1
  have hq0 := hrq.1
  have hs1 := o_rs2 hrs
  have hl1 := o_rl6 hrl
  have hq1 := o_rq12 hrq
  obtain ⟨hw1, hw2, hw3⟩ := id hws
  obtain ⟨hw4, hw5, hw6, hw7, hw8⟩ := id hwl
  obtain ⟨hw9, hw10, hw11⟩ := id hwq
  have hwk := hwf.1
  refine o_aload_n dX11_darkHours_0 rfl ?_
  refine o_iload_n dX11_darkHours_1 rfl ?_
  by_cases hp : 0 ≤ i ∧ i < M 0 0
  case neg => exact o_cVx _ (ct_X11_throwUnlessShipB hl d g M hst hwk i hi hp) dX11_darkHours_2 ml_X11_148 yw_X11_throwUnlessShip rfl (by decide) (by omega) (by omega) (by omega) (by decide) rfl rfl rfl (Nat.le_of_ble_eq_true rfl) (o_T.out rfl (x_qN hp ⟨hxd, o_fr_r⟩))
  refine o_cV _ (ct_X11_throwUnlessShipA hl d g M hst hwk i hi hp) dX11_darkHours_2 ml_X11_148 yw_X11_throwUnlessShip rfl (by decide) (by omega) (by decide) rfl rfl rfl (Nat.le_of_ble_eq_true rfl) ?_
  obtain ⟨j, hj⟩ : ∃ j : Nat, i = (j : Int) := ⟨i.toNat, by omega⟩
  subst hj
  refine o_aload_n dX11_darkHours_5 rfl ?_
  refine o_gf dX11_darkHours_6 fl_X11_12 rfl (by decide) rfl ?_
  refine o_gf dX11_darkHours_9 fl_X11_80 rfl (by decide) rfl ?_
  refine o_gf dX11_darkHours_12 fl_X11_159 rfl (by decide) rfl ?_
  refine o_iload_n dX11_darkHours_15 rfl ?_
  refine o_ialdn (j := j) dX11_darkHours_16 (by decide) rfl (by decide) (by first | rfl | omega) (by omega) ?_
  refine o_ret1 dX11_darkHours_17 trivial ?_
  exact x_qI hp (by rw [Int.toNat_natCast, (hs1 j (by omega)).2.2]) ⟨hxd, o_fr_r⟩
set_option maxRecDepth 100000 in
set_option maxHeartbeats 4000000 in
/-- level(i) -/
theorem ct_X11_level {l : Launch} (hl : l.stackTraces = false) (d : Nat) (g M : Nat → Nat → Int) (P : List (Nat → Nat → Int)) (S : Option (Nat → Nat → Int)) (T : Nat → Nat → Int) (hxd : o_xd g M P S T) (hwf : o_wf M) (i : Int) (hi : o_R i) : o_Ct l yX11_level wX11_level (d + 3) o_no [.ref 0, .int (o_I i)] o_N (o_mem g) 1 6 (x_x ["java/lang/IndexOutOfBoundsException"] (1 - o_b (0 ≤ i ∧ i < M 0 1)) (.int (o_I (M 4 i.toNat))) (M) (P) (S) (T) g) := by
  refine o_Ct.ofV hl mX11_level (by decide +kernel) rfl rfl rfl (Nat.le_of_ble_eq_true rfl) ?_
  have hst := hxd.1
  obtain ⟨hrs, hrl, hrq, hg3, hg4, hg5, hg6⟩ := id hst
  obtain ⟨⟨hws, hwl, hwq, hwo, hwle, hwrq, hwrd⟩, hwh, hwc, hwe⟩ := id hwf
  have hs0 := hrs.1
  have hl0 := hrl.1
  have hq0 := hrq.1
  have hs1 := o_rs2 hrs
  have hl1 := o_rl6 hrl
  have hq1 := o_rq12 hrq
  obtain ⟨hw1, hw2, hw3⟩ := id hws
  obtain ⟨hw4, hw5, hw6, hw7, hw8⟩ := id hwl
  obtain ⟨hw9, hw10, hw11⟩ := id hwq
  have hwk := hwf.1
  refine o_aload_n dX11_level_0 rfl ?_
  refine o_iload_n dX11_level_1 rfl ?_
  by_cases hp : 0 ≤ i ∧ i < M 0 1
  case neg => exact o_cVx _ (ct_X11_throwUnlessLampB hl d g M hst hwk i hi hp) dX11_level_2 ml_X11_169 yw_X11_throwUnlessLamp rfl (by decide) (by omega) (by omega) (by omega) (by decide) rfl rfl rfl (Nat.le_of_ble_eq_true rfl) (o_T.out rfl (x_qN hp ⟨hxd, o_fr_r⟩))
  refine o_cV _ (ct_X11_throwUnlessLampA hl d g M hst hwk i hi hp) dX11_level_2 ml_X11_169 yw_X11_throwUnlessLamp rfl (by decide) (by omega) (by decide) rfl rfl rfl (Nat.le_of_ble_eq_true rfl) ?_
  obtain ⟨j, hj⟩ : ∃ j : Nat, i = (j : Int) := ⟨i.toNat, by omega⟩
  subst hj
  refine o_aload_n dX11_level_5 rfl ?_
  refine o_gf dX11_level_6 fl_X11_12 rfl (by decide) rfl ?_
  refine o_gf dX11_level_9 fl_X11_94 rfl (by decide) rfl ?_
  refine o_gf dX11_level_12 fl_X11_172 rfl (by decide) rfl ?_
  refine o_iload_n dX11_level_15 rfl ?_
  refine o_ialdn (j := j) dX11_level_16 (by decide) rfl (by decide) (by first | rfl | omega) (by omega) ?_
  refine o_ret1 dX11_level_17 trivial ?_
  exact x_qI hp (by rw [Int.toNat_natCast, (hl1 j (by omega)).1]) ⟨hxd, o_fr_r⟩
set_option maxRecDepth 100000 in
set_option maxHeartbeats 4000000 in
/-- brightHours(i) -/
theorem ct_X11_brightHours {l : Launch} (hl : l.stackTraces = false) (d : Nat) (g M : Nat → Nat → Int) (P : List (Nat → Nat → Int)) (S : Option (Nat → Nat → Int)) (T : Nat → Nat → Int) (hxd : o_xd g M P S T) (hwf : o_wf M) (i : Int) (hi : o_R i) : o_Ct l yX11_brightHours wX11_brightHours (d + 3) o_no [.ref 0, .int (o_I i)] o_N (o_mem g) 1 6 (x_x ["java/lang/IndexOutOfBoundsException"] (1 - o_b (0 ≤ i ∧ i < M 0 1)) (.int (o_I (M 7 i.toNat))) (M) (P) (S) (T) g) := by
  refine o_Ct.ofV hl mX11_brightHours (by decide +kernel) rfl rfl rfl (Nat.le_of_ble_eq_true rfl) ?_
  have hst := hxd.1
  obtain ⟨hrs, hrl, hrq, hg3, hg4, hg5, hg6⟩ := id hst
  obtain ⟨⟨hws, hwl, hwq, hwo, hwle, hwrq, hwrd⟩, hwh, hwc, hwe⟩ := id hwf
  have hs0 := hrs.1
  have hl0 := hrl.1
  have hq0 := hrq.1
  have hs1 := o_rs2 hrs
  have hl1 := o_rl6 hrl
  have hq1 := o_rq12 hrq
  obtain ⟨hw1, hw2, hw3⟩ := id hws
  obtain ⟨hw4, hw5, hw6, hw7, hw8⟩ := id hwl
  obtain ⟨hw9, hw10, hw11⟩ := id hwq
  have hwk := hwf.1
  refine o_aload_n dX11_brightHours_0 rfl ?_
  refine o_iload_n dX11_brightHours_1 rfl ?_
  by_cases hp : 0 ≤ i ∧ i < M 0 1
  case neg => exact o_cVx _ (ct_X11_throwUnlessLampB hl d g M hst hwk i hi hp) dX11_brightHours_2 ml_X11_169 yw_X11_throwUnlessLamp rfl (by decide) (by omega) (by omega) (by omega) (by decide) rfl rfl rfl (Nat.le_of_ble_eq_true rfl) (o_T.out rfl (x_qN hp ⟨hxd, o_fr_r⟩))
  refine o_cV _ (ct_X11_throwUnlessLampA hl d g M hst hwk i hi hp) dX11_brightHours_2 ml_X11_169 yw_X11_throwUnlessLamp rfl (by decide) (by omega) (by decide) rfl rfl rfl (Nat.le_of_ble_eq_true rfl) ?_
  obtain ⟨j, hj⟩ : ∃ j : Nat, i = (j : Int) := ⟨i.toNat, by omega⟩
  subst hj
  refine o_aload_n dX11_brightHours_5 rfl ?_
  refine o_gf dX11_brightHours_6 fl_X11_12 rfl (by decide) rfl ?_
  refine o_gf dX11_brightHours_9 fl_X11_94 rfl (by decide) rfl ?_
  refine o_gf dX11_brightHours_12 fl_X11_185 rfl (by decide) rfl ?_
  refine o_iload_n dX11_brightHours_15 rfl ?_
  refine o_ialdn (j := j) dX11_brightHours_16 (by decide) rfl (by decide) (by first | rfl | omega) (by omega) ?_
  refine o_ret1 dX11_brightHours_17 trivial ?_
  exact x_qI hp (by rw [Int.toNat_natCast, (hl1 j (by omega)).2.2.2.1]) ⟨hxd, o_fr_r⟩
set_option maxRecDepth 100000 in
set_option maxHeartbeats 4000000 in
/-- requestedLamp(i) -/
theorem ct_X11_requestedLamp {l : Launch} (hl : l.stackTraces = false) (d : Nat) (g M : Nat → Nat → Int) (P : List (Nat → Nat → Int)) (S : Option (Nat → Nat → Int)) (T : Nat → Nat → Int) (hxd : o_xd g M P S T) (hwf : o_wf M) (i : Int) (hi : o_R i) : o_Ct l yX11_requestedLamp wX11_requestedLamp (d + 3) o_no [.ref 0, .int (o_I i)] o_N (o_mem g) 1 6 (x_x ["java/util/NoSuchElementException"] (1 - o_b (0 ≤ i ∧ i < M 0 6)) (.int (o_I (M 9 i.toNat))) (M) (P) (S) (T) g) := by
  refine o_Ct.ofV hl mX11_requestedLamp (by decide +kernel) rfl rfl rfl (Nat.le_of_ble_eq_true rfl) ?_
  have hst := hxd.1
  obtain ⟨hrs, hrl, hrq, hg3, hg4, hg5, hg6⟩ := id hst
  obtain ⟨⟨hws, hwl, hwq, hwo, hwle, hwrq, hwrd⟩, hwh, hwc, hwe⟩ := id hwf
  have hs0 := hrs.1
  have hl0 := hrl.1
  have hq0 := hrq.1
  have hs1 := o_rs2 hrs
  have hl1 := o_rl6 hrl
  have hq1 := o_rq12 hrq
  obtain ⟨hw1, hw2, hw3⟩ := id hws
  obtain ⟨hw4, hw5, hw6, hw7, hw8⟩ := id hwl
  obtain ⟨hw9, hw10, hw11⟩ := id hwq
  have hwk := hwf.1
  refine o_aload_n dX11_requestedLamp_0 rfl ?_
  refine o_iload_n dX11_requestedLamp_1 rfl ?_
  by_cases hp : 0 ≤ i ∧ i < M 0 6
  case neg => exact o_cVx _ (ct_X11_throwUnlessPositionB hl d g M hst hwk i hi hp) dX11_requestedLamp_2 ml_X11_228 yw_X11_throwUnlessPosition rfl (by decide) (by omega) (by omega) (by omega) (by decide) rfl rfl rfl (Nat.le_of_ble_eq_true rfl) (o_T.out rfl (x_qN hp ⟨hxd, o_fr_r⟩))
  refine o_cV _ (ct_X11_throwUnlessPositionA hl d g M hst hwk i hi hp) dX11_requestedLamp_2 ml_X11_228 yw_X11_throwUnlessPosition rfl (by decide) (by omega) (by decide) rfl rfl rfl (Nat.le_of_ble_eq_true rfl) ?_
  obtain ⟨j, hj⟩ : ∃ j : Nat, i = (j : Int) := ⟨i.toNat, by omega⟩
  subst hj
  refine o_aload_n dX11_requestedLamp_5 rfl ?_
  refine o_gf dX11_requestedLamp_6 fl_X11_12 rfl (by decide) rfl ?_
  refine o_gf dX11_requestedLamp_9 fl_X11_121 rfl (by decide) rfl ?_
  refine o_gf dX11_requestedLamp_12 fl_X11_231 rfl (by decide) rfl ?_
  refine o_iload_n dX11_requestedLamp_15 rfl ?_
  refine o_ialdn (j := j) dX11_requestedLamp_16 (by decide) rfl (by decide) (by first | rfl | omega) (by omega) ?_
  refine o_ret1 dX11_requestedLamp_17 trivial ?_
  exact x_qI hp (by rw [Int.toNat_natCast, (hq1 j (by omega)).1]) ⟨hxd, o_fr_r⟩
set_option maxRecDepth 100000 in
set_option maxHeartbeats 4000000 in
/-- requestedHours(i) -/
theorem ct_X11_requestedHours {l : Launch} (hl : l.stackTraces = false) (d : Nat) (g M : Nat → Nat → Int) (P : List (Nat → Nat → Int)) (S : Option (Nat → Nat → Int)) (T : Nat → Nat → Int) (hxd : o_xd g M P S T) (hwf : o_wf M) (i : Int) (hi : o_R i) : o_Ct l yX11_requestedHours wX11_requestedHours (d + 3) o_no [.ref 0, .int (o_I i)] o_N (o_mem g) 1 6 (x_x ["java/util/NoSuchElementException"] (1 - o_b (0 ≤ i ∧ i < M 0 6)) (.int (o_I (M 10 i.toNat))) (M) (P) (S) (T) g) := by
  refine o_Ct.ofV hl mX11_requestedHours (by decide +kernel) rfl rfl rfl (Nat.le_of_ble_eq_true rfl) ?_
  have hst := hxd.1
  obtain ⟨hrs, hrl, hrq, hg3, hg4, hg5, hg6⟩ := id hst
  obtain ⟨⟨hws, hwl, hwq, hwo, hwle, hwrq, hwrd⟩, hwh, hwc, hwe⟩ := id hwf
  have hs0 := hrs.1
  have hl0 := hrl.1
  have hq0 := hrq.1
  have hs1 := o_rs2 hrs
  have hl1 := o_rl6 hrl
  have hq1 := o_rq12 hrq
  obtain ⟨hw1, hw2, hw3⟩ := id hws
  obtain ⟨hw4, hw5, hw6, hw7, hw8⟩ := id hwl
  obtain ⟨hw9, hw10, hw11⟩ := id hwq
  have hwk := hwf.1
  refine o_aload_n dX11_requestedHours_0 rfl ?_
  refine o_iload_n dX11_requestedHours_1 rfl ?_
  by_cases hp : 0 ≤ i ∧ i < M 0 6
  case neg => exact o_cVx _ (ct_X11_throwUnlessPositionB hl d g M hst hwk i hi hp) dX11_requestedHours_2 ml_X11_228 yw_X11_throwUnlessPosition rfl (by decide) (by omega) (by omega) (by omega) (by decide) rfl rfl rfl (Nat.le_of_ble_eq_true rfl) (o_T.out rfl (x_qN hp ⟨hxd, o_fr_r⟩))
  refine o_cV _ (ct_X11_throwUnlessPositionA hl d g M hst hwk i hi hp) dX11_requestedHours_2 ml_X11_228 yw_X11_throwUnlessPosition rfl (by decide) (by omega) (by decide) rfl rfl rfl (Nat.le_of_ble_eq_true rfl) ?_
  obtain ⟨j, hj⟩ : ∃ j : Nat, i = (j : Int) := ⟨i.toNat, by omega⟩
  subst hj
  refine o_aload_n dX11_requestedHours_5 rfl ?_
  refine o_gf dX11_requestedHours_6 fl_X11_12 rfl (by decide) rfl ?_
  refine o_gf dX11_requestedHours_9 fl_X11_121 rfl (by decide) rfl ?_
  refine o_gf dX11_requestedHours_12 fl_X11_233 rfl (by decide) rfl ?_
  refine o_iload_n dX11_requestedHours_15 rfl ?_
  refine o_ialdn (j := j) dX11_requestedHours_16 (by decide) rfl (by decide) (by first | rfl | omega) (by omega) ?_
  refine o_ret1 dX11_requestedHours_17 trivial ?_
  exact x_qI hp (by rw [Int.toNat_natCast, (hq1 j (by omega)).2]) ⟨hxd, o_fr_r⟩
set_option maxRecDepth 100000 in
set_option maxHeartbeats 4000000 in
/-- wasBright(i) -/
theorem ct_X11_wasBright {l : Launch} (hl : l.stackTraces = false) (d : Nat) (g M : Nat → Nat → Int) (P : List (Nat → Nat → Int)) (S : Option (Nat → Nat → Int)) (T : Nat → Nat → Int) (hxd : o_xd g M P S T) (hwf : o_wf M) (i : Int) (hi : o_R i) : o_Ct l yX11_wasBright wX11_wasBright (d + 3) o_no [.ref 0, .int (o_I i)] o_N (o_mem g) 1 6 (x_x ["java/lang/IndexOutOfBoundsException"] (1 - o_b (0 ≤ i ∧ i < M 0 1)) (.int (o_I (o_b (M 8 i.toNat = 1)))) (M) (P) (S) (T) g) := by
  refine o_Ct.ofV hl mX11_wasBright (by decide +kernel) rfl rfl rfl (Nat.le_of_ble_eq_true rfl) ?_
  have hst := hxd.1
  obtain ⟨hrs, hrl, hrq, hg3, hg4, hg5, hg6⟩ := id hst
  obtain ⟨⟨hws, hwl, hwq, hwo, hwle, hwrq, hwrd⟩, hwh, hwc, hwe⟩ := id hwf
  have hs0 := hrs.1
  have hl0 := hrl.1
  have hq0 := hrq.1
  have hs1 := o_rs2 hrs
  have hl1 := o_rl6 hrl
  have hq1 := o_rq12 hrq
  obtain ⟨hw1, hw2, hw3⟩ := id hws
  obtain ⟨hw4, hw5, hw6, hw7, hw8⟩ := id hwl
  obtain ⟨hw9, hw10, hw11⟩ := id hwq
  have hwk := hwf.1
  refine o_aload_n dX11_wasBright_0 rfl ?_
  refine o_iload_n dX11_wasBright_1 rfl ?_
  by_cases hp : 0 ≤ i ∧ i < M 0 1
  case neg => exact o_cVx _ (ct_X11_throwUnlessLampB hl d g M hst hwk i hi hp) dX11_wasBright_2 ml_X11_169 yw_X11_throwUnlessLamp rfl (by decide) (by omega) (by omega) (by omega) (by decide) rfl rfl rfl (Nat.le_of_ble_eq_true rfl) (o_T.out rfl (x_qN hp ⟨hxd, o_fr_r⟩))
  refine o_cV _ (ct_X11_throwUnlessLampA hl d g M hst hwk i hi hp) dX11_wasBright_2 ml_X11_169 yw_X11_throwUnlessLamp rfl (by decide) (by omega) (by decide) rfl rfl rfl (Nat.le_of_ble_eq_true rfl) ?_
  obtain ⟨j, hj⟩ : ∃ j : Nat, i = (j : Int) := ⟨i.toNat, by omega⟩
  subst hj
  refine o_aload_n dX11_wasBright_5 rfl ?_
  refine o_gf dX11_wasBright_6 fl_X11_12 rfl (by decide) rfl ?_
  refine o_gf dX11_wasBright_9 fl_X11_94 rfl (by decide) rfl ?_
  refine o_gf dX11_wasBright_12 fl_X11_188 rfl (by decide) rfl ?_
  refine o_iload_n dX11_wasBright_15 rfl ?_
  refine o_zaldn (j := j) dX11_wasBright_16 (by decide) rfl (by decide) (by first | rfl | omega) (by omega) ?_
  have hb8 := (hl1 j (by omega)).2.2.2.2
  have hb9 := hw8 j (by omega)
  have hb7 : g 11 j = o_b (M 8 j = 1) := by
    rw [hb8]
    rcases hb9.2.2.2.2 with q | q
    · rw [q]; rfl
    · rw [q]; rfl
  rw [hb7]
  refine o_ret1 dX11_wasBright_17 (by first | exact o_rb0 | exact o_rb1 | exact o_bn _) ?_
  exact x_qI hp (by rw [Int.toNat_natCast]) ⟨hxd, o_fr_r⟩
set_option maxRecDepth 100000 in
set_option maxHeartbeats 4000000 in
/-- demand(i) -/
theorem ct_X11_demand {l : Launch} (hl : l.stackTraces = false) (d : Nat) (g M : Nat → Nat → Int) (P : List (Nat → Nat → Int)) (S : Option (Nat → Nat → Int)) (T : Nat → Nat → Int) (hxd : o_xd g M P S T) (hwf : o_wf M) (i : Int) (hi : o_R i) : o_Ct l yX11_demand wX11_demand (d + 4) o_no [.ref 0, .int (o_I i)] o_N (o_mem g) 1 6 (x_x ["java/lang/IndexOutOfBoundsException"] (1 - o_b (0 ≤ i ∧ i < M 0 0)) (.int (o_I (d_of M i))) (M) (P) (S) (T) g) := by
  refine o_Ct.ofV hl mX11_demand (by decide +kernel) rfl rfl rfl (Nat.le_of_ble_eq_true rfl) ?_
  have hst := hxd.1
  obtain ⟨hrs, hrl, hrq, hg3, hg4, hg5, hg6⟩ := id hst
  obtain ⟨⟨hws, hwl, hwq, hwo, hwle, hwrq, hwrd⟩, hwh, hwc, hwe⟩ := id hwf
  have hs0 := hrs.1
  have hl0 := hrl.1
  have hq0 := hrq.1
  have hs1 := o_rs2 hrs
  have hl1 := o_rl6 hrl
  have hq1 := o_rq12 hrq
  obtain ⟨hw1, hw2, hw3⟩ := id hws
  obtain ⟨hw4, hw5, hw6, hw7, hw8⟩ := id hwl
  obtain ⟨hw9, hw10, hw11⟩ := id hwq
  have hwk := hwf.1
  refine o_aload_n dX11_demand_0 rfl ?_
  refine o_iload_n dX11_demand_1 rfl ?_
  by_cases hp : 0 ≤ i ∧ i < M 0 0
  case neg => exact o_cVx _ (ct_X11_throwUnlessShipB hl d g M hst hwk i hi hp) dX11_demand_2 ml_X11_148 yw_X11_throwUnlessShip rfl (by decide) (by omega) (by omega) (by omega) (by decide) rfl rfl rfl (Nat.le_of_ble_eq_true rfl) (o_T.out rfl (x_qN hp ⟨hxd, o_fr_r⟩))
  refine o_cV _ (ct_X11_throwUnlessShipA hl d g M hst hwk i hi hp) dX11_demand_2 ml_X11_148 yw_X11_throwUnlessShip rfl (by decide) (by omega) (by decide) rfl rfl rfl (Nat.le_of_ble_eq_true rfl) ?_
  obtain ⟨j, hj⟩ : ∃ j : Nat, i = (j : Int) := ⟨i.toNat, by omega⟩
  subst hj
  refine o_aload_n dX11_demand_5 rfl ?_
  refine o_gf dX11_demand_6 fl_X11_12 rfl (by decide) rfl ?_
  refine o_gf dX11_demand_9 fl_X11_94 rfl (by decide) rfl ?_
  refine o_iload_n dX11_demand_12 rfl ?_
  refine o_cV _ (ct_X7_demandOf hl d g M hrl hwl (j : Int) hi) dX11_demand_13 ml_X11_162 yw_X7_demandOf rfl (by decide) (by omega) (by decide) rfl rfl rfl (Nat.le_of_ble_eq_true rfl) ?_
  refine o_ret1 dX11_demand_16 trivial ?_
  exact x_qI hp rfl ⟨hxd, o_fr_r⟩
set_option maxRecDepth 100000 in
set_option maxHeartbeats 4000000 in
/-- leasesOf(i) -/
theorem ct_X11_leasesOf {l : Launch} (hl : l.stackTraces = false) (d : Nat) (g M : Nat → Nat → Int) (P : List (Nat → Nat → Int)) (S : Option (Nat → Nat → Int)) (T : Nat → Nat → Int) (hxd : o_xd g M P S T) (hwf : o_wf M) (i : Int) (hi : o_R i) : o_Ct l yX11_leasesOf wX11_leasesOf (d + 4) o_no [.ref 0, .int (o_I i)] o_N (o_mem g) 1 6 (x_x ["java/lang/IndexOutOfBoundsException"] (1 - o_b (0 ≤ i ∧ i < M 0 0)) (.int (o_I (m_cnt M i))) (M) (P) (S) (T) g) := by
  refine o_Ct.ofV hl mX11_leasesOf (by decide +kernel) rfl rfl rfl (Nat.le_of_ble_eq_true rfl) ?_
  have hst := hxd.1
  obtain ⟨hrs, hrl, hrq, hg3, hg4, hg5, hg6⟩ := id hst
  obtain ⟨⟨hws, hwl, hwq, hwo, hwle, hwrq, hwrd⟩, hwh, hwc, hwe⟩ := id hwf
  have hs0 := hrs.1
  have hl0 := hrl.1
  have hq0 := hrq.1
  have hs1 := o_rs2 hrs
  have hl1 := o_rl6 hrl
  have hq1 := o_rq12 hrq
  obtain ⟨hw1, hw2, hw3⟩ := id hws
  obtain ⟨hw4, hw5, hw6, hw7, hw8⟩ := id hwl
  obtain ⟨hw9, hw10, hw11⟩ := id hwq
  have hwk := hwf.1
  refine o_aload_n dX11_leasesOf_0 rfl ?_
  refine o_iload_n dX11_leasesOf_1 rfl ?_
  by_cases hp : 0 ≤ i ∧ i < M 0 0
  case neg => exact o_cVx _ (ct_X11_throwUnlessShipB hl d g M hst hwk i hi hp) dX11_leasesOf_2 ml_X11_148 yw_X11_throwUnlessShip rfl (by decide) (by omega) (by omega) (by omega) (by decide) rfl rfl rfl (Nat.le_of_ble_eq_true rfl) (o_T.out rfl (x_qN hp ⟨hxd, o_fr_r⟩))
  refine o_cV _ (ct_X11_throwUnlessShipA hl d g M hst hwk i hi hp) dX11_leasesOf_2 ml_X11_148 yw_X11_throwUnlessShip rfl (by decide) (by omega) (by decide) rfl rfl rfl (Nat.le_of_ble_eq_true rfl) ?_
  obtain ⟨j, hj⟩ : ∃ j : Nat, i = (j : Int) := ⟨i.toNat, by omega⟩
  subst hj
  refine o_aload_n dX11_leasesOf_5 rfl ?_
  refine o_gf dX11_leasesOf_6 fl_X11_12 rfl (by decide) rfl ?_
  refine o_gf dX11_leasesOf_9 fl_X11_94 rfl (by decide) rfl ?_
  refine o_iload_n dX11_leasesOf_12 rfl ?_
  refine o_cV _ (ct_X7_countOf hl d g M hrl hwl (j : Int) hi) dX11_leasesOf_13 ml_X11_165 yw_X7_countOf rfl (by decide) (by omega) (by decide) rfl rfl rfl (Nat.le_of_ble_eq_true rfl) ?_
  refine o_ret1 dX11_leasesOf_16 trivial ?_
  exact x_qI hp rfl ⟨hxd, o_fr_r⟩
set_option maxRecDepth 100000 in
set_option maxHeartbeats 4000000 in
/-- isLeased(i) -/
theorem ct_X11_isLeased {l : Launch} (hl : l.stackTraces = false) (d : Nat) (g M : Nat → Nat → Int) (P : List (Nat → Nat → Int)) (S : Option (Nat → Nat → Int)) (T : Nat → Nat → Int) (hxd : o_xd g M P S T) (hwf : o_wf M) (i : Int) (hi : o_R i) : o_Ct l yX11_isLeased wX11_isLeased (d + 4) o_no [.ref 0, .int (o_I i)] o_N (o_mem g) 1 6 (x_x ["java/lang/IndexOutOfBoundsException"] (1 - o_b (0 ≤ i ∧ i < M 0 1)) (.int (o_I (o_b (0 < M 5 i.toNat)))) (M) (P) (S) (T) g) := by
  refine o_Ct.ofV hl mX11_isLeased (by decide +kernel) rfl rfl rfl (Nat.le_of_ble_eq_true rfl) ?_
  have hst := hxd.1
  obtain ⟨hrs, hrl, hrq, hg3, hg4, hg5, hg6⟩ := id hst
  obtain ⟨⟨hws, hwl, hwq, hwo, hwle, hwrq, hwrd⟩, hwh, hwc, hwe⟩ := id hwf
  have hs0 := hrs.1
  have hl0 := hrl.1
  have hq0 := hrq.1
  have hs1 := o_rs2 hrs
  have hl1 := o_rl6 hrl
  have hq1 := o_rq12 hrq
  obtain ⟨hw1, hw2, hw3⟩ := id hws
  obtain ⟨hw4, hw5, hw6, hw7, hw8⟩ := id hwl
  obtain ⟨hw9, hw10, hw11⟩ := id hwq
  have hwk := hwf.1
  refine o_aload_n dX11_isLeased_0 rfl ?_
  refine o_iload_n dX11_isLeased_1 rfl ?_
  by_cases hp : 0 ≤ i ∧ i < M 0 1
  case neg => exact o_cVx _ (ct_X11_throwUnlessLampB hl d g M hst hwk i hi hp) dX11_isLeased_2 ml_X11_169 yw_X11_throwUnlessLamp rfl (by decide) (by omega) (by omega) (by omega) (by decide) rfl rfl rfl (Nat.le_of_ble_eq_true rfl) (o_T.out rfl (x_qN hp ⟨hxd, o_fr_r⟩))
  refine o_cV _ (ct_X11_throwUnlessLampA hl d g M hst hwk i hi hp) dX11_isLeased_2 ml_X11_169 yw_X11_throwUnlessLamp rfl (by decide) (by omega) (by decide) rfl rfl rfl (Nat.le_of_ble_eq_true rfl) ?_
  obtain ⟨j, hj⟩ : ∃ j : Nat, i = (j : Int) := ⟨i.toNat, by omega⟩
  subst hj
  refine o_aload_n dX11_isLeased_5 rfl ?_
  refine o_gf dX11_isLeased_6 fl_X11_12 rfl (by decide) rfl ?_
  refine o_gf dX11_isLeased_9 fl_X11_94 rfl (by decide) rfl ?_
  refine o_iload_n dX11_isLeased_12 rfl ?_
  refine o_cV _ (ct_X7_isTaken hl d g M hrl hwl (j : Int) hi) dX11_isLeased_13 ml_X11_175 yw_X7_isTaken rfl (by decide) (by omega) (by decide) rfl rfl rfl (Nat.le_of_ble_eq_true rfl) ?_
  refine o_ret1 dX11_isLeased_16 (by first | exact o_rb0 | exact o_rb1 | exact o_bn _) ?_
  exact x_qI hp (o_b_eq ⟨fun z => ⟨hp.1, hp.2, z⟩, fun z => z.2.2⟩) ⟨hxd, o_fr_r⟩
set_option maxRecDepth 100000 in
set_option maxHeartbeats 4000000 in
/-- share(i) -/
theorem ct_X11_share {l : Launch} (hl : l.stackTraces = false) (d : Nat) (g M : Nat → Nat → Int) (P : List (Nat → Nat → Int)) (S : Option (Nat → Nat → Int)) (T : Nat → Nat → Int) (hxd : o_xd g M P S T) (hwf : o_wf M) (i : Int) (hi : o_R i) : o_Ct l yX11_share wX11_share (d + 5) o_no [.ref 0, .int (o_I i)] o_N (o_mem g) 1 6 (x_x ["java/lang/IndexOutOfBoundsException"] (1 - o_b (0 ≤ i ∧ i < M 0 0)) (.int (o_I (d_sh M i.toNat))) (M) (P) (S) (T) g) := by
  refine o_Ct.ofV hl mX11_share (by decide +kernel) rfl rfl rfl (Nat.le_of_ble_eq_true rfl) ?_
  have hst := hxd.1
  obtain ⟨hrs, hrl, hrq, hg3, hg4, hg5, hg6⟩ := id hst
  obtain ⟨⟨hws, hwl, hwq, hwo, hwle, hwrq, hwrd⟩, hwh, hwc, hwe⟩ := id hwf
  have hs0 := hrs.1
  have hl0 := hrl.1
  have hq0 := hrq.1
  have hs1 := o_rs2 hrs
  have hl1 := o_rl6 hrl
  have hq1 := o_rq12 hrq
  obtain ⟨hw1, hw2, hw3⟩ := id hws
  obtain ⟨hw4, hw5, hw6, hw7, hw8⟩ := id hwl
  obtain ⟨hw9, hw10, hw11⟩ := id hwq
  have hwk := hwf.1
  refine o_aload_n dX11_share_0 rfl ?_
  refine o_iload_n dX11_share_1 rfl ?_
  by_cases hp : 0 ≤ i ∧ i < M 0 0
  case neg => exact o_cVx _ (ct_X11_throwUnlessShipB hl d g M hst hwk i hi hp) dX11_share_2 ml_X11_148 yw_X11_throwUnlessShip rfl (by decide) (by omega) (by omega) (by omega) (by decide) rfl rfl rfl (Nat.le_of_ble_eq_true rfl) (o_T.out rfl (x_qN hp ⟨hxd, o_fr_r⟩))
  refine o_cV _ (ct_X11_throwUnlessShipA hl d g M hst hwk i hi hp) dX11_share_2 ml_X11_148 yw_X11_throwUnlessShip rfl (by decide) (by omega) (by decide) rfl rfl rfl (Nat.le_of_ble_eq_true rfl) ?_
  obtain ⟨j, hj⟩ : ∃ j : Nat, i = (j : Int) := ⟨i.toNat, by omega⟩
  subst hj
  refine o_aload_n dX11_share_5 rfl ?_
  refine o_gf dX11_share_6 fl_X11_39 rfl (by decide) rfl ?_
  refine o_aload_n dX11_share_9 rfl ?_
  refine o_gf dX11_share_10 fl_X11_12 rfl (by decide) rfl ?_
  refine o_iload_n dX11_share_13 rfl ?_
  refine o_cVm _ (ct_X3_shareByGiving hl d g M hst hwk j (by omega)) dX11_share_14 ml_X11_220 yw_X3_shareByGiving rfl (by decide) (by omega) (by decide) rfl rfl rfl (Nat.le_of_ble_eq_true rfl) (fun g_14 q_14 => ?_)
  refine o_ret1 dX11_share_17 trivial ?_
  exact x_qI hp (by rw [Int.toNat_natCast]) (o_xd_k hxd (o_fr_m q_14 (fun a ha => by have : 159 ≤ a ∧ a ≤ 162 := ha; omega)))
set_option maxRecDepth 100000 in
set_option maxHeartbeats 4000000 in
/-- shareByRank(i) -/
theorem ct_X11_shareByRank {l : Launch} (hl : l.stackTraces = false) (d : Nat) (g M : Nat → Nat → Int) (P : List (Nat → Nat → Int)) (S : Option (Nat → Nat → Int)) (T : Nat → Nat → Int) (hxd : o_xd g M P S T) (hwf : o_wf M) (i : Int) (hi : o_R i) : o_Ct l yX11_shareByRank wX11_shareByRank (d + 5) o_no [.ref 0, .int (o_I i)] o_N (o_mem g) 1 6 (x_x ["java/lang/IndexOutOfBoundsException"] (1 - o_b (0 ≤ i ∧ i < M 0 0)) (.int (o_I (d_sh M i.toNat))) (M) (P) (S) (T) g) := by
  refine o_Ct.ofV hl mX11_shareByRank (by decide +kernel) rfl rfl rfl (Nat.le_of_ble_eq_true rfl) ?_
  have hst := hxd.1
  obtain ⟨hrs, hrl, hrq, hg3, hg4, hg5, hg6⟩ := id hst
  obtain ⟨⟨hws, hwl, hwq, hwo, hwle, hwrq, hwrd⟩, hwh, hwc, hwe⟩ := id hwf
  have hs0 := hrs.1
  have hl0 := hrl.1
  have hq0 := hrq.1
  have hs1 := o_rs2 hrs
  have hl1 := o_rl6 hrl
  have hq1 := o_rq12 hrq
  obtain ⟨hw1, hw2, hw3⟩ := id hws
  obtain ⟨hw4, hw5, hw6, hw7, hw8⟩ := id hwl
  obtain ⟨hw9, hw10, hw11⟩ := id hwq
  have hwk := hwf.1
  refine o_aload_n dX11_shareByRank_0 rfl ?_
  refine o_iload_n dX11_shareByRank_1 rfl ?_
  by_cases hp : 0 ≤ i ∧ i < M 0 0
  case neg => exact o_cVx _ (ct_X11_throwUnlessShipB hl d g M hst hwk i hi hp) dX11_shareByRank_2 ml_X11_148 yw_X11_throwUnlessShip rfl (by decide) (by omega) (by omega) (by omega) (by decide) rfl rfl rfl (Nat.le_of_ble_eq_true rfl) (o_T.out rfl (x_qN hp ⟨hxd, o_fr_r⟩))
  refine o_cV _ (ct_X11_throwUnlessShipA hl d g M hst hwk i hi hp) dX11_shareByRank_2 ml_X11_148 yw_X11_throwUnlessShip rfl (by decide) (by omega) (by decide) rfl rfl rfl (Nat.le_of_ble_eq_true rfl) ?_
  obtain ⟨j, hj⟩ : ∃ j : Nat, i = (j : Int) := ⟨i.toNat, by omega⟩
  subst hj
  refine o_aload_n dX11_shareByRank_5 rfl ?_
  refine o_gf dX11_shareByRank_6 fl_X11_39 rfl (by decide) rfl ?_
  refine o_aload_n dX11_shareByRank_9 rfl ?_
  refine o_gf dX11_shareByRank_10 fl_X11_12 rfl (by decide) rfl ?_
  refine o_iload_n dX11_shareByRank_13 rfl ?_
  refine o_cVm _ (ct_X3_shareByRemainderRank hl d g M hst hwk j (by omega)) dX11_shareByRank_14 ml_X11_224 yw_X3_shareByRemainderRank rfl (by decide) (by omega) (by decide) rfl rfl rfl (Nat.le_of_ble_eq_true rfl) (fun g_14 q_14 => ?_)
  refine o_ret1 dX11_shareByRank_17 trivial ?_
  exact x_qI hp (by rw [Int.toNat_natCast]) (o_xd_k hxd (o_fr_m q_14 (fun a ha => by have : 159 ≤ a ∧ a ≤ 162 := ha; omega)))
set_option maxRecDepth 100000 in
set_option maxHeartbeats 4000000 in
/-- lessee(i) -/
theorem ct_X11_lessee {l : Launch} (hl : l.stackTraces = false) (d : Nat) (g M : Nat → Nat → Int) (P : List (Nat → Nat → Int)) (S : Option (Nat → Nat → Int)) (T : Nat → Nat → Int) (hxd : o_xd g M P S T) (hwf : o_wf M) (i : Int) (hi : o_R i) : o_Ct l yX11_lessee wX11_lessee (d + 4) o_no [.ref 0, .int (o_I i)] o_N (o_mem g) 1 6 (x_x ["java/lang/IndexOutOfBoundsException", "java/util/NoSuchElementException"] (r_unl M i) (.int (o_I (M 5 i.toNat - 1))) (M) (P) (S) (T) g) := by
  refine o_Ct.ofV hl mX11_lessee (by decide +kernel) rfl rfl rfl (Nat.le_of_ble_eq_true rfl) ?_
  have hst := hxd.1
  obtain ⟨hrs, hrl, hrq, hg3, hg4, hg5, hg6⟩ := id hst
  obtain ⟨⟨hws, hwl, hwq, hwo, hwle, hwrq, hwrd⟩, hwh, hwc, hwe⟩ := id hwf
  have hs0 := hrs.1
  have hl0 := hrl.1
  have hq0 := hrq.1
  have hs1 := o_rs2 hrs
  have hl1 := o_rl6 hrl
  have hq1 := o_rq12 hrq
  obtain ⟨hw1, hw2, hw3⟩ := id hws
  obtain ⟨hw4, hw5, hw6, hw7, hw8⟩ := id hwl
  obtain ⟨hw9, hw10, hw11⟩ := id hwq
  have hwk := hwf.1
  refine o_aload_n dX11_lessee_0 rfl ?_
  refine o_gf dX11_lessee_1 fl_X11_12 rfl (by decide) rfl ?_
  refine o_iload_n dX11_lessee_4 rfl ?_
  refine o_cV _ (ct_X10_faultOfUnleased hl d g M hst hwf i hi) dX11_lessee_5 ml_X11_130 yw_X10_faultOfUnleased rfl (by decide) (by omega) (by decide) rfl rfl rfl (Nat.le_of_ble_eq_true rfl) ?_
  rcases x_unl M i with ⟨hr, hf, hp, hp5⟩ | ⟨hz, E, hr, hE, hf⟩
  case inr => exact o_cSx _ (ct_X11_throwForB hl d o_N (o_mem g) (f_unl M i) hz E hf) dX11_lessee_8 ml_X11_72 ys_X11_throwFor rfl (by decide) (by omega) (by omega) (by omega) rfl (Nat.le_of_ble_eq_true rfl) (o_T.out rfl (x_xN hr hE ⟨hxd, o_fr_r⟩))
  refine o_cS _ (ct_X11_throwForA hl d o_N (o_mem g) (f_unl M i) hf) dX11_lessee_8 ml_X11_72 ys_X11_throwFor rfl (by decide) (by omega) rfl (Nat.le_of_ble_eq_true rfl) ?_
  obtain ⟨j, hj⟩ : ∃ j : Nat, i = (j : Int) := ⟨i.toNat, by omega⟩
  subst hj
  refine o_aload_n dX11_lessee_11 rfl ?_
  refine o_gf dX11_lessee_12 fl_X11_12 rfl (by decide) rfl ?_
  refine o_gf dX11_lessee_15 fl_X11_94 rfl (by decide) rfl ?_
  refine o_gf dX11_lessee_18 fl_X11_179 rfl (by decide) rfl ?_
  refine o_iload_n dX11_lessee_21 rfl ?_
  refine o_ialdn (j := j) dX11_lessee_22 (by decide) rfl (by decide) (by first | rfl | omega) (by omega) ?_
  refine o_ret1 dX11_lessee_23 trivial ?_
  exact x_xI hr (by rw [Int.toNat_natCast, (hl1 j (by omega)).2.1]) ⟨hxd, o_fr_r⟩
set_option maxRecDepth 100000 in
set_option maxHeartbeats 4000000 in
/-- endHour(i) -/
theorem ct_X11_endHour {l : Launch} (hl : l.stackTraces = false) (d : Nat) (g M : Nat → Nat → Int) (P : List (Nat → Nat → Int)) (S : Option (Nat → Nat → Int)) (T : Nat → Nat → Int) (hxd : o_xd g M P S T) (hwf : o_wf M) (i : Int) (hi : o_R i) : o_Ct l yX11_endHour wX11_endHour (d + 4) o_no [.ref 0, .int (o_I i)] o_N (o_mem g) 1 6 (x_x ["java/lang/IndexOutOfBoundsException", "java/util/NoSuchElementException"] (r_unl M i) (.int (o_I (M 6 i.toNat))) (M) (P) (S) (T) g) := by
  refine o_Ct.ofV hl mX11_endHour (by decide +kernel) rfl rfl rfl (Nat.le_of_ble_eq_true rfl) ?_
  have hst := hxd.1
  obtain ⟨hrs, hrl, hrq, hg3, hg4, hg5, hg6⟩ := id hst
  obtain ⟨⟨hws, hwl, hwq, hwo, hwle, hwrq, hwrd⟩, hwh, hwc, hwe⟩ := id hwf
  have hs0 := hrs.1
  have hl0 := hrl.1
  have hq0 := hrq.1
  have hs1 := o_rs2 hrs
  have hl1 := o_rl6 hrl
  have hq1 := o_rq12 hrq
  obtain ⟨hw1, hw2, hw3⟩ := id hws
  obtain ⟨hw4, hw5, hw6, hw7, hw8⟩ := id hwl
  obtain ⟨hw9, hw10, hw11⟩ := id hwq
  have hwk := hwf.1
  refine o_aload_n dX11_endHour_0 rfl ?_
  refine o_gf dX11_endHour_1 fl_X11_12 rfl (by decide) rfl ?_
  refine o_iload_n dX11_endHour_4 rfl ?_
  refine o_cV _ (ct_X10_faultOfUnleased hl d g M hst hwf i hi) dX11_endHour_5 ml_X11_130 yw_X10_faultOfUnleased rfl (by decide) (by omega) (by decide) rfl rfl rfl (Nat.le_of_ble_eq_true rfl) ?_
  rcases x_unl M i with ⟨hr, hf, hp, hp5⟩ | ⟨hz, E, hr, hE, hf⟩
  case inr => exact o_cSx _ (ct_X11_throwForB hl d o_N (o_mem g) (f_unl M i) hz E hf) dX11_endHour_8 ml_X11_72 ys_X11_throwFor rfl (by decide) (by omega) (by omega) (by omega) rfl (Nat.le_of_ble_eq_true rfl) (o_T.out rfl (x_xN hr hE ⟨hxd, o_fr_r⟩))
  refine o_cS _ (ct_X11_throwForA hl d o_N (o_mem g) (f_unl M i) hf) dX11_endHour_8 ml_X11_72 ys_X11_throwFor rfl (by decide) (by omega) rfl (Nat.le_of_ble_eq_true rfl) ?_
  obtain ⟨j, hj⟩ : ∃ j : Nat, i = (j : Int) := ⟨i.toNat, by omega⟩
  subst hj
  refine o_aload_n dX11_endHour_11 rfl ?_
  refine o_gf dX11_endHour_12 fl_X11_12 rfl (by decide) rfl ?_
  refine o_gf dX11_endHour_15 fl_X11_94 rfl (by decide) rfl ?_
  refine o_gf dX11_endHour_18 fl_X11_182 rfl (by decide) rfl ?_
  refine o_iload_n dX11_endHour_21 rfl ?_
  refine o_ialdn (j := j) dX11_endHour_22 (by decide) rfl (by decide) (by first | rfl | omega) (by omega) ?_
  refine o_ret1 dX11_endHour_23 trivial ?_
  exact x_xI hr (by rw [Int.toNat_natCast, (hl1 j (by omega)).2.2.1]) ⟨hxd, o_fr_r⟩
set_option maxRecDepth 100000 in
set_option maxHeartbeats 4000000 in
/-- hoursOfOil() -/
theorem ct_X11_hoursOfOil {l : Launch} (hl : l.stackTraces = false) (d : Nat) (g M : Nat → Nat → Int) (P : List (Nat → Nat → Int)) (S : Option (Nat → Nat → Int)) (T : Nat → Nat → Int) (hxd : o_xd g M P S T) (hwf : o_wf M) (r : Int) (hr9 : n_hp M 501 0 (M 0 2) = r) : o_Ct l yX11_hoursOfOil wX11_hoursOfOil (d + 4) o_no [.ref 0] o_N (o_mem g) 1 6 (x_x ["java/util/NoSuchElementException"] (if r = -1 then 1 else 0) (.int (o_I (if r = -1 then 0 else r))) (M) (P) (S) (T) g) := by
  refine o_Ct.ofV hl mX11_hoursOfOil (by decide +kernel) rfl rfl rfl (Nat.le_of_ble_eq_true rfl) ?_
  have hst := hxd.1
  obtain ⟨hrs, hrl, hrq, hg3, hg4, hg5, hg6⟩ := id hst
  obtain ⟨⟨hws, hwl, hwq, hwo, hwle, hwrq, hwrd⟩, hwh, hwc, hwe⟩ := id hwf
  have hs0 := hrs.1
  have hl0 := hrl.1
  have hq0 := hrq.1
  have hs1 := o_rs2 hrs
  have hl1 := o_rl6 hrl
  have hq1 := o_rq12 hrq
  obtain ⟨hw1, hw2, hw3⟩ := id hws
  obtain ⟨hw4, hw5, hw6, hw7, hw8⟩ := id hwl
  obtain ⟨hw9, hw10, hw11⟩ := id hwq
  have hwk := hwf.1
  have hrR := @n_hp_R M 501 0 (M 0 2)
  rw [hr9] at hrR
  refine o_aload_n dX11_hoursOfOil_0 rfl ?_
  refine o_gf dX11_hoursOfOil_1 fl_X11_32 rfl (by decide) rfl ?_
  refine o_aload_n dX11_hoursOfOil_4 rfl ?_
  refine o_gf dX11_hoursOfOil_5 fl_X11_12 rfl (by decide) rfl ?_
  refine o_cV _ (ct_X4_hoursByPassing hl d g M hst hwk r hr9) dX11_hoursOfOil_8 ml_X11_201 yw_X4_hoursByPassing rfl (by decide) (by omega) (by decide) rfl rfl rfl (Nat.le_of_ble_eq_true rfl) ?_
  refine o_istore_n dX11_hoursOfOil_11 (by decide) ?_
  refine o_iload_n dX11_hoursOfOil_12 rfl ?_
  by_cases hn : r = -1
  case pos => exact o_cSx _ (ct_X11_throwIfNothingB hl d o_N (o_mem g) (r) hn) dX11_hoursOfOil_13 ml_X11_205 ys_X11_throwIfNothing rfl (by decide) (by omega) (by omega) (by omega) rfl (Nat.le_of_ble_eq_true rfl) (o_T.out rfl (x_xN (by rw [if_pos hn]; decide) (by rw [if_pos hn]; rfl) ⟨hxd, o_fr_r⟩))
  refine o_cS _ (ct_X11_throwIfNothingA hl d o_N (o_mem g) (r) (⟨by omega, by omega⟩) hn) dX11_hoursOfOil_13 ml_X11_205 ys_X11_throwIfNothing rfl (by decide) (by omega) rfl (Nat.le_of_ble_eq_true rfl) ?_
  refine o_iload_n dX11_hoursOfOil_16 rfl ?_
  refine o_ret1 dX11_hoursOfOil_17 trivial ?_
  exact x_xI (if_neg hn) (if_neg hn) ⟨hxd, o_fr_r⟩
set_option maxRecDepth 100000 in
set_option maxHeartbeats 4000000 in
/-- hoursOfOilByEnds() -/
theorem ct_X11_hoursOfOilByEnds {l : Launch} (hl : l.stackTraces = false) (d : Nat) (g M : Nat → Nat → Int) (P : List (Nat → Nat → Int)) (S : Option (Nat → Nat → Int)) (T : Nat → Nat → Int) (hxd : o_xd g M P S T) (hwf : o_wf M) (r : Int) (hr9 : n_hp M 501 0 (M 0 2) = r) : o_Ct l yX11_hoursOfOilByEnds wX11_hoursOfOilByEnds (d + 4) o_no [.ref 0] o_N (o_mem g) 1 6 (x_x ["java/util/NoSuchElementException"] (if r = -1 then 1 else 0) (.int (o_I (if r = -1 then 0 else r))) (M) (P) (S) (T) g) := by
  refine o_Ct.ofV hl mX11_hoursOfOilByEnds (by decide +kernel) rfl rfl rfl (Nat.le_of_ble_eq_true rfl) ?_
  have hst := hxd.1
  obtain ⟨hrs, hrl, hrq, hg3, hg4, hg5, hg6⟩ := id hst
  obtain ⟨⟨hws, hwl, hwq, hwo, hwle, hwrq, hwrd⟩, hwh, hwc, hwe⟩ := id hwf
  have hs0 := hrs.1
  have hl0 := hrl.1
  have hq0 := hrq.1
  have hs1 := o_rs2 hrs
  have hl1 := o_rl6 hrl
  have hq1 := o_rq12 hrq
  obtain ⟨hw1, hw2, hw3⟩ := id hws
  obtain ⟨hw4, hw5, hw6, hw7, hw8⟩ := id hwl
  obtain ⟨hw9, hw10, hw11⟩ := id hwq
  have hwk := hwf.1
  have hrR := @n_hp_R M 501 0 (M 0 2)
  rw [hr9] at hrR
  refine o_aload_n dX11_hoursOfOilByEnds_0 rfl ?_
  refine o_gf dX11_hoursOfOilByEnds_1 fl_X11_32 rfl (by decide) rfl ?_
  refine o_aload_n dX11_hoursOfOilByEnds_4 rfl ?_
  refine o_gf dX11_hoursOfOilByEnds_5 fl_X11_12 rfl (by decide) rfl ?_
  refine o_cV _ (ct_X4_hoursByEndHours hl d g M hst hwk r (by rw [n_he_eq hwk]; exact hr9)) dX11_hoursOfOilByEnds_8 ml_X11_208 yw_X4_hoursByEndHours rfl (by decide) (by omega) (by decide) rfl rfl rfl (Nat.le_of_ble_eq_true rfl) ?_
  refine o_istore_n dX11_hoursOfOilByEnds_11 (by decide) ?_
  refine o_iload_n dX11_hoursOfOilByEnds_12 rfl ?_
  by_cases hn : r = -1
  case pos => exact o_cSx _ (ct_X11_throwIfNothingB hl d o_N (o_mem g) (r) hn) dX11_hoursOfOilByEnds_13 ml_X11_205 ys_X11_throwIfNothing rfl (by decide) (by omega) (by omega) (by omega) rfl (Nat.le_of_ble_eq_true rfl) (o_T.out rfl (x_xN (by rw [if_pos hn]; decide) (by rw [if_pos hn]; rfl) ⟨hxd, o_fr_r⟩))
  refine o_cS _ (ct_X11_throwIfNothingA hl d o_N (o_mem g) (r) (⟨by omega, by omega⟩) hn) dX11_hoursOfOilByEnds_13 ml_X11_205 ys_X11_throwIfNothing rfl (by decide) (by omega) rfl (Nat.le_of_ble_eq_true rfl) ?_
  refine o_iload_n dX11_hoursOfOilByEnds_16 rfl ?_
  refine o_ret1 dX11_hoursOfOilByEnds_17 trivial ?_
  exact x_xI (if_neg hn) (if_neg hn) ⟨hxd, o_fr_r⟩
set_option maxRecDepth 100000 in
set_option maxHeartbeats 4000000 in
/-- shipByFines(rank) -/
theorem ct_X11_shipByFines {l : Launch} (hl : l.stackTraces = false) (d : Nat) (g M : Nat → Nat → Int) (P : List (Nat → Nat → Int)) (S : Option (Nat → Nat → Int)) (T : Nat → Nat → Int) (hxd : o_xd g M P S T) (hwf : o_wf M) (rank : Int) (hrank : o_R rank) (r : Int) (hr9 : o_fst (fun i => o_rkS M i = rank) (M 0 0).toNat r) : o_Ct l yX11_shipByFines wX11_shipByFines (d + 4) o_no [.ref 0, .int (o_I rank)] o_N (o_mem g) 1 6 (x_x ["java/util/NoSuchElementException"] (1 - o_b (0 ≤ rank ∧ rank < M 0 0)) (.int (o_I r)) (M) (P) (S) (T) g) := by
  refine o_Ct.ofV hl mX11_shipByFines (by decide +kernel) rfl rfl rfl (Nat.le_of_ble_eq_true rfl) ?_
  have hst := hxd.1
  obtain ⟨hrs, hrl, hrq, hg3, hg4, hg5, hg6⟩ := id hst
  obtain ⟨⟨hws, hwl, hwq, hwo, hwle, hwrq, hwrd⟩, hwh, hwc, hwe⟩ := id hwf
  have hs0 := hrs.1
  have hl0 := hrl.1
  have hq0 := hrq.1
  have hs1 := o_rs2 hrs
  have hl1 := o_rl6 hrl
  have hq1 := o_rq12 hrq
  obtain ⟨hw1, hw2, hw3⟩ := id hws
  obtain ⟨hw4, hw5, hw6, hw7, hw8⟩ := id hwl
  obtain ⟨hw9, hw10, hw11⟩ := id hwq
  have hwk := hwf.1
  have hat := s_at hw1 hr9
  have hrR := o_fst_R hr9 (by omega)
  refine o_aload_n dX11_shipByFines_0 rfl ?_
  refine o_gf dX11_shipByFines_1 fl_X11_12 rfl (by decide) rfl ?_
  refine o_gf dX11_shipByFines_4 fl_X11_80 rfl (by decide) rfl ?_
  refine o_iload_n dX11_shipByFines_7 rfl ?_
  refine o_cV _ (ct_X9_atRank hl d g M hrs hws rank hrank r hr9) dX11_shipByFines_8 ml_X11_242 yw_X9_atRank rfl (by decide) (by omega) (by decide) rfl rfl rfl (Nat.le_of_ble_eq_true rfl) ?_
  refine o_istore_n dX11_shipByFines_11 (by decide) ?_
  refine o_iload_n dX11_shipByFines_12 rfl ?_
  by_cases hn : r = -1
  case pos => exact o_cSx _ (ct_X11_throwIfNothingB hl d o_N (o_mem g) (r) hn) dX11_shipByFines_13 ml_X11_205 ys_X11_throwIfNothing rfl (by decide) (by omega) (by omega) (by omega) rfl (Nat.le_of_ble_eq_true rfl) (o_T.out rfl (x_qN (fun z => hat.mp z hn) ⟨hxd, o_fr_r⟩))
  refine o_cS _ (ct_X11_throwIfNothingA hl d o_N (o_mem g) (r) (⟨by omega, by omega⟩) hn) dX11_shipByFines_13 ml_X11_205 ys_X11_throwIfNothing rfl (by decide) (by omega) rfl (Nat.le_of_ble_eq_true rfl) ?_
  refine o_iload_n dX11_shipByFines_16 rfl ?_
  refine o_ret1 dX11_shipByFines_17 trivial ?_
  exact x_qI (hat.mpr hn) rfl ⟨hxd, o_fr_r⟩
set_option maxRecDepth 100000 in
set_option maxHeartbeats 4000000 in
/-- lampByEnd(rank) -/
theorem ct_X11_lampByEnd {l : Launch} (hl : l.stackTraces = false) (d : Nat) (g M : Nat → Nat → Int) (P : List (Nat → Nat → Int)) (S : Option (Nat → Nat → Int)) (T : Nat → Nat → Int) (hxd : o_xd g M P S T) (hwf : o_wf M) (rank : Int) (hrank : o_R rank) (r : Int) (hr9 : o_fst (fun i => 0 < M 5 i ∧ o_rkL M i = rank) (M 0 1).toNat r) : o_Ct l yX11_lampByEnd wX11_lampByEnd (d + 4) o_no [.ref 0, .int (o_I rank)] o_N (o_mem g) 1 6 (x_x ["java/util/NoSuchElementException"] (1 - o_b (0 ≤ rank ∧ rank ≤ o_sm (fun i => o_b (0 < M 5 i)) (M 0 1).toNat - 1)) (.int (o_I r)) (M) (P) (S) (T) g) := by
  refine o_Ct.ofV hl mX11_lampByEnd (by decide +kernel) rfl rfl rfl (Nat.le_of_ble_eq_true rfl) ?_
  have hst := hxd.1
  obtain ⟨hrs, hrl, hrq, hg3, hg4, hg5, hg6⟩ := id hst
  obtain ⟨⟨hws, hwl, hwq, hwo, hwle, hwrq, hwrd⟩, hwh, hwc, hwe⟩ := id hwf
  have hs0 := hrs.1
  have hl0 := hrl.1
  have hq0 := hrq.1
  have hs1 := o_rs2 hrs
  have hl1 := o_rl6 hrl
  have hq1 := o_rq12 hrq
  obtain ⟨hw1, hw2, hw3⟩ := id hws
  obtain ⟨hw4, hw5, hw6, hw7, hw8⟩ := id hwl
  obtain ⟨hw9, hw10, hw11⟩ := id hwq
  have hwk := hwf.1
  have hat := l_at hr9
  have hrR := o_fst_R hr9 (by omega)
  refine o_aload_n dX11_lampByEnd_0 rfl ?_
  refine o_gf dX11_lampByEnd_1 fl_X11_12 rfl (by decide) rfl ?_
  refine o_gf dX11_lampByEnd_4 fl_X11_94 rfl (by decide) rfl ?_
  refine o_iload_n dX11_lampByEnd_7 rfl ?_
  refine o_cV _ (ct_X7_atRank hl d g M hrl hwl rank hrank r hr9) dX11_lampByEnd_8 ml_X11_245 yw_X7_atRank rfl (by decide) (by omega) (by decide) rfl rfl rfl (Nat.le_of_ble_eq_true rfl) ?_
  refine o_istore_n dX11_lampByEnd_11 (by decide) ?_
  refine o_iload_n dX11_lampByEnd_12 rfl ?_
  by_cases hn : r = -1
  case pos => exact o_cSx _ (ct_X11_throwIfNothingB hl d o_N (o_mem g) (r) hn) dX11_lampByEnd_13 ml_X11_205 ys_X11_throwIfNothing rfl (by decide) (by omega) (by omega) (by omega) rfl (Nat.le_of_ble_eq_true rfl) (o_T.out rfl (x_qN (fun z => hat.mp z hn) ⟨hxd, o_fr_r⟩))
  refine o_cS _ (ct_X11_throwIfNothingA hl d o_N (o_mem g) (r) (⟨by omega, by omega⟩) hn) dX11_lampByEnd_13 ml_X11_205 ys_X11_throwIfNothing rfl (by decide) (by omega) rfl (Nat.le_of_ble_eq_true rfl) ?_
  refine o_iload_n dX11_lampByEnd_16 rfl ?_
  refine o_ret1 dX11_lampByEnd_17 trivial ?_
  exact x_qI (hat.mpr hn) rfl ⟨hxd, o_fr_r⟩
set_option maxRecDepth 100000 in
set_option maxHeartbeats 4000000 in
/-- meanCoins() -/
theorem ct_X11_meanCoins {l : Launch} (hl : l.stackTraces = false) (d : Nat) (g M : Nat → Nat → Int) (P : List (Nat → Nat → Int)) (S : Option (Nat → Nat → Int)) (T : Nat → Nat → Int) (hxd : o_xd g M P S T) (hwf : o_wf M) : o_Ct l yX11_meanCoins wX11_meanCoins (d + 2) o_no [.ref 0] o_N (o_mem g) 1 6 (x_x ["java/lang/ArithmeticException"] (1 - o_b (0 < M 0 0)) (.double (f_mean M)) (M) (P) (S) (T) g) := by
  refine o_Ct.ofV hl mX11_meanCoins (by decide +kernel) rfl rfl rfl (Nat.le_of_ble_eq_true rfl) ?_
  have hst := hxd.1
  obtain ⟨hrs, hrl, hrq, hg3, hg4, hg5, hg6⟩ := id hst
  obtain ⟨⟨hws, hwl, hwq, hwo, hwle, hwrq, hwrd⟩, hwh, hwc, hwe⟩ := id hwf
  have hs0 := hrs.1
  have hl0 := hrl.1
  have hq0 := hrq.1
  have hs1 := o_rs2 hrs
  have hl1 := o_rl6 hrl
  have hq1 := o_rq12 hrq
  obtain ⟨hw1, hw2, hw3⟩ := id hws
  obtain ⟨hw4, hw5, hw6, hw7, hw8⟩ := id hwl
  obtain ⟨hw9, hw10, hw11⟩ := id hwq
  have hwk := hwf.1
  refine o_aload_n dX11_meanCoins_0 rfl ?_
  refine o_gf dX11_meanCoins_1 fl_X11_12 rfl (by decide) rfl ?_
  refine o_gf dX11_meanCoins_4 fl_X11_80 rfl (by decide) rfl ?_
  refine o_gf dX11_meanCoins_7 fl_X11_145 rfl (by decide) rfl ?_
  refine o_istore_n dX11_meanCoins_10 (by decide) ?_
  refine o_iload_n dX11_meanCoins_11 rfl ?_
  refine o_if_ne (tgt := 25) dX11_meanCoins_12 (by decide) ⟨by omega, by omega⟩ (fun c_12 => ?_) (fun c_12 => ?_)
  · skip
    refine o_aload_n dX11_meanCoins_25 rfl ?_
    refine o_gf dX11_meanCoins_26 fl_X11_12 rfl (by decide) rfl ?_
    refine o_gf dX11_meanCoins_29 fl_X11_80 rfl (by decide) rfl ?_
    refine o_cV _ (ct_X9_sumOfCoins hl d g M hrs hws) dX11_meanCoins_32 ml_X11_253 yw_X9_sumOfCoins rfl (by decide) (by omega) (by decide) rfl rfl rfl (Nat.le_of_ble_eq_true rfl) ?_
    have h0 : 0 < M 0 0 := by omega
    have hf := f_mean_ok hwk h0
    refine o_i2d dX11_meanCoins_35 ?_
    refine o_iload_n dX11_meanCoins_36 rfl ?_
    refine o_i2d dX11_meanCoins_37 ?_
    rw [hs0]
    refine o_ddiv dX11_meanCoins_38 hf.1 ?_
    refine o_ret1 dX11_meanCoins_39 trivial ?_
    exact x_xY (by rw [o_b1 h0]; rfl) ⟨hxd, o_fr_r⟩
  · skip
    exact o_txn (ci := 17) (text := "there are no ships") (sn := 15) rfl tw_D (by decide) dX11_meanCoins_15 dX11_meanCoins_18 dX11_meanCoins_19 dX11_meanCoins_21 dX11_meanCoins_24 (by decide) rfl rfl (by omega) (by omega) (by decide) (x_qN (by omega) ⟨hxd, o_fr_r⟩)
set_option maxRecDepth 100000 in
set_option maxHeartbeats 4000000 in
/-- leasedShare() -/
theorem ct_X11_leasedShare {l : Launch} (hl : l.stackTraces = false) (d : Nat) (g M : Nat → Nat → Int) (P : List (Nat → Nat → Int)) (S : Option (Nat → Nat → Int)) (T : Nat → Nat → Int) (hxd : o_xd g M P S T) (hwf : o_wf M) : o_Ct l yX11_leasedShare wX11_leasedShare (d + 3) o_no [.ref 0] o_N (o_mem g) 1 6 (x_x ["java/lang/ArithmeticException"] (1 - o_b (0 < M 0 1)) (.float (f_shr M)) (M) (P) (S) (T) g) := by
  refine o_Ct.ofV hl mX11_leasedShare (by decide +kernel) rfl rfl rfl (Nat.le_of_ble_eq_true rfl) ?_
  have hst := hxd.1
  obtain ⟨hrs, hrl, hrq, hg3, hg4, hg5, hg6⟩ := id hst
  obtain ⟨⟨hws, hwl, hwq, hwo, hwle, hwrq, hwrd⟩, hwh, hwc, hwe⟩ := id hwf
  have hs0 := hrs.1
  have hl0 := hrl.1
  have hq0 := hrq.1
  have hs1 := o_rs2 hrs
  have hl1 := o_rl6 hrl
  have hq1 := o_rq12 hrq
  obtain ⟨hw1, hw2, hw3⟩ := id hws
  obtain ⟨hw4, hw5, hw6, hw7, hw8⟩ := id hwl
  obtain ⟨hw9, hw10, hw11⟩ := id hwq
  have hwk := hwf.1
  refine o_aload_n dX11_leasedShare_0 rfl ?_
  refine o_gf dX11_leasedShare_1 fl_X11_12 rfl (by decide) rfl ?_
  refine o_gf dX11_leasedShare_4 fl_X11_94 rfl (by decide) rfl ?_
  refine o_gf dX11_leasedShare_7 fl_X11_168 rfl (by decide) rfl ?_
  refine o_istore_n dX11_leasedShare_10 (by decide) ?_
  refine o_iload_n dX11_leasedShare_11 rfl ?_
  refine o_if_ne (tgt := 26) dX11_leasedShare_12 (by decide) ⟨by omega, by omega⟩ (fun c_12 => ?_) (fun c_12 => ?_)
  · skip
    refine o_aload_n dX11_leasedShare_26 rfl ?_
    refine o_gf dX11_leasedShare_27 fl_X11_12 rfl (by decide) rfl ?_
    refine o_gf dX11_leasedShare_30 fl_X11_94 rfl (by decide) rfl ?_
    refine o_cV _ (ct_X7_countTaken hl d g M hrl hwl) dX11_leasedShare_33 ml_X11_192 yw_X7_countTaken rfl (by decide) (by omega) (by decide) rfl rfl rfl (Nat.le_of_ble_eq_true rfl) ?_
    have h0 : 0 < M 0 1 := by omega
    have hf := f_shr_ok hwk h0
    refine o_i2f dX11_leasedShare_36 ?_
    refine o_iload_n dX11_leasedShare_37 rfl ?_
    refine o_i2f dX11_leasedShare_38 ?_
    rw [hl0]
    refine o_fdiv dX11_leasedShare_39 hf.1 ?_
    refine o_ret1 dX11_leasedShare_40 trivial ?_
    exact x_xY (by rw [o_b1 h0]; rfl) ⟨hxd, o_fr_r⟩
  · skip
    exact o_tx (ci := 17) (text := "there are no lamps") (sn := 16) rfl tw_D (by decide) dX11_leasedShare_15 dX11_leasedShare_18 dX11_leasedShare_19 dX11_leasedShare_22 dX11_leasedShare_25 (by decide) rfl rfl (by omega) (by omega) (by decide) (x_qN (by omega) ⟨hxd, o_fr_r⟩)
