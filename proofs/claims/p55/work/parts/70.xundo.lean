/-! the class's office: undo, save, texts -/
set_option maxRecDepth 100000 in
set_option maxHeartbeats 4000000 in
/-- undo() with nothing to undo -/
theorem ct_X11_undoN {l : Launch} (hl : l.stackTraces = false) (d : Nat) (g M : Nat → Nat → Int) (S : Option (Nat → Nat → Int)) (T : Nat → Nat → Int) (hxd : o_xd g M [] S T) (hwf : o_wf M) : o_Ct l yX11_undo wX11_undo (d + 2) o_no [.ref 0] o_N (o_mem g) 1 6 (x_x ["java/lang/IllegalStateException"] (1) (.int (o_I 0)) (M) ([]) (S) (T) g) := by
  refine o_Ct.ofV hl mX11_undo (by decide +kernel) rfl rfl rfl (Nat.le_of_ble_eq_true rfl) ?_
  have hst := hxd.1
  obtain ⟨hrs, hrl, hrq, hg3, hg4, hg5, hg6⟩ := id hst
  obtain ⟨⟨hws, hwl, hwq, hwo, hwle, hwrq, hwrd⟩, hwh, hwc, hwe⟩ := id hwf
  have hs0 := hrs.1
  have hl0 := hrl.1
  have hq0 := hrq.1
  have hs1 := o_rs2 hrs
  have hl1 := o_rl6 hrl
  have hq1 := o_rq12 hrq
  obtain ⟨hw1, hw2, hw3⟩ := id hws
  obtain ⟨hw4, hw5, hw6, hw7, hw8⟩ := id hwl
  obtain ⟨hw9, hw10, hw11⟩ := id hwq
  have hwk := hwf.1
  obtain ⟨ho, hh1, hh2, hh3, hh4, hh5⟩ := hxd.2.1
  refine o_aload_n dX11_undo_0 rfl ?_
  refine o_gf dX11_undo_1 fl_X11_25 rfl (by decide) rfl ?_
  refine o_gf dX11_undo_4 fl_X11_372 rfl (by decide) rfl ?_
  rw [hh3, show (([] : List (Nat → Nat → Int)).length : Int) = 0 from rfl]
  refine o_if_ne (tgt := 21) dX11_undo_7 (by decide) ⟨by omega, by omega⟩ (fun c => absurd rfl c) (fun _ => ?_)
  exact o_tx (ci := 14) (text := "no call can be undone") (sn := 21) rfl tw_S (by decide) dX11_undo_10 dX11_undo_13 dX11_undo_14 dX11_undo_17 dX11_undo_20 (by decide) rfl rfl (by omega) (by omega) (by decide) (x_xN (by decide) rfl ⟨hxd, o_fr_r⟩)
set_option maxRecDepth 100000 in
set_option maxHeartbeats 4000000 in
/-- undo() -/
theorem ct_X11_undoY {l : Launch} (hl : l.stackTraces = false) (d : Nat) (g M : Nat → Nat → Int) (P : List (Nat → Nat → Int)) (B : Nat → Nat → Int) (S : Option (Nat → Nat → Int)) (T : Nat → Nat → Int) (hxd : o_xd g M (P ++ [B]) S T) (hwf : o_wf M) (hwB : o_wk B) : o_Ct l yX11_undo wX11_undo (d + 4) o_no [.ref 0] o_N (o_mem g) 1 6 (x_x [] (0) (.int (o_I (P.length : Int))) (B) (P) (S) (T) g) := by
  refine o_Ct.ofV hl mX11_undo (by decide +kernel) rfl rfl rfl (Nat.le_of_ble_eq_true rfl) ?_
  have hst := hxd.1
  obtain ⟨hrs, hrl, hrq, hg3, hg4, hg5, hg6⟩ := id hst
  obtain ⟨⟨hws, hwl, hwq, hwo, hwle, hwrq, hwrd⟩, hwh, hwc, hwe⟩ := id hwf
  have hs0 := hrs.1
  have hl0 := hrl.1
  have hq0 := hrq.1
  have hs1 := o_rs2 hrs
  have hl1 := o_rl6 hrl
  have hq1 := o_rq12 hrq
  obtain ⟨hw1, hw2, hw3⟩ := id hws
  obtain ⟨hw4, hw5, hw6, hw7, hw8⟩ := id hwl
  obtain ⟨hw9, hw10, hw11⟩ := id hwq
  have hwk := hwf.1
  obtain ⟨ho, hh1, hh2, hh3, hh4, hh5⟩ := hxd.2.1
  rw [List.length_append, List.length_singleton] at hh4
  refine o_aload_n dX11_undo_0 rfl ?_
  refine o_gf dX11_undo_1 fl_X11_25 rfl (by decide) rfl ?_
  refine o_gf dX11_undo_4 fl_X11_372 rfl (by decide) rfl ?_
  rw [hh3, List.length_append, List.length_singleton]
  refine o_if_ne (tgt := 21) dX11_undo_7 (by decide) ⟨by omega, by omega⟩ (fun c_7 => ?_) (fun c_7 => ?_)
  · skip
    refine o_aload_n dX11_undo_21 rfl ?_
    refine o_gf dX11_undo_22 fl_X11_25 rfl (by decide) rfl ?_
    refine o_aload_n dX11_undo_25 rfl ?_
    refine o_gf dX11_undo_26 fl_X11_12 rfl (by decide) rfl ?_
    refine o_cVm _ (ct_X5_popInto hl d g P B hxd.2.1 hwB.1 hwB.2.1 hwB.2.2.1) dX11_undo_29 ml_X11_375 yw_X5_popInto rfl (by decide) (by omega) (by decide) rfl rfl rfl (Nat.le_of_ble_eq_true rfl) (fun g_29 q_29 => ?_)
    have e9 : ∀ a, ¬ ((1 ≤ a ∧ a < 15) ∨ a = 43) → g_29 a = g a := q_29.2.2
    refine o_aload_n dX11_undo_32 rfl ?_
    refine o_gf dX11_undo_33 fl_X11_25 rfl (by decide) rfl ?_
    refine o_gf dX11_undo_36 fl_X11_372 rfl (by decide) rfl ?_
    obtain ⟨ho, ij1, ij2, ij3, ij4, ij5⟩ := q_29.2.1
    refine o_ret1 dX11_undo_39 trivial ?_
    refine x_xI rfl ij3.symm ⟨⟨q_29.1, q_29.2.1, x_m3_c hxd.2.2.1 (by rw [e9 0 (by omega)]) (fun a a1 a2 => e9 a (by omega)), x_m4_c hxd.2.2.2 (fun j _ => by rw [e9 0 (by omega)]) (by rw [e9 163 (by omega)]) (e9 164 (by omega)) (e9 190 (by omega)) (e9 191 (by omega))⟩, o_fr_m q_29.2.2 (fun a ha => show a ≤ 191 by have ha : (1 ≤ a ∧ a < 15) ∨ a = 43 := ha; omega)⟩
  · skip
    exfalso; omega
set_option maxRecDepth 100000 in
set_option maxHeartbeats 4000000 in
/-- save() -/
theorem ct_X11_save {l : Launch} (hl : l.stackTraces = false) (d : Nat) (g M : Nat → Nat → Int) (P : List (Nat → Nat → Int)) (S : Option (Nat → Nat → Int)) (T : Nat → Nat → Int) (hxd : o_xd g M P S T) (hwf : o_wf M) : o_Ct l yX11_save wX11_save (d + 3) o_no [.ref 0] o_N (o_mem g) 0 0 (x_x [] (0) (.int (o_I (M 0 1))) (M) (P) (some M) (T) g) := by
  refine o_Ct.ofV hl mX11_save (by decide +kernel) rfl rfl rfl (Nat.le_of_ble_eq_true rfl) ?_
  have hst := hxd.1
  obtain ⟨hrs, hrl, hrq, hg3, hg4, hg5, hg6⟩ := id hst
  obtain ⟨⟨hws, hwl, hwq, hwo, hwle, hwrq, hwrd⟩, hwh, hwc, hwe⟩ := id hwf
  have hs0 := hrs.1
  have hl0 := hrl.1
  have hq0 := hrq.1
  have hs1 := o_rs2 hrs
  have hl1 := o_rl6 hrl
  have hq1 := o_rq12 hrq
  obtain ⟨hw1, hw2, hw3⟩ := id hws
  obtain ⟨hw4, hw5, hw6, hw7, hw8⟩ := id hwl
  obtain ⟨hw9, hw10, hw11⟩ := id hwq
  have hwk := hwf.1
  refine o_aload_n dX11_save_0 rfl ?_
  refine o_gf dX11_save_1 fl_X11_19 rfl (by decide) rfl ?_
  refine o_aload_n dX11_save_4 rfl ?_
  refine o_gf dX11_save_5 fl_X11_12 rfl (by decide) rfl ?_
  refine o_cVm _ (ct_X10_copyFrom hl d g M 29 1 o_SB_29 o_SB_1 (by decide) hst hws hwl hwq) dX11_save_8 ml_X11_299 yw_X10_copyFrom rfl (by decide) (by omega) (by decide) rfl rfl rfl (Nat.le_of_ble_eq_true rfl) (fun g_8 q_8 => ?_)
  have e9 : ∀ a, ¬ (29 ≤ a ∧ a < 29 + 14) → g_8 a = g a := q_8.2
  refine o_aload_n dX11_save_11 rfl ?_
  refine o_iconst dX11_save_12 ?_
  refine o_pmE dX11_save_13 fp_X11_378 rfl (by decide) (Nat.le_of_ble_eq_true rfl) rfl rfl (fun _ => rfl) (by decide) (fun g_13 e_13 => ?_)
  have el : g_13 6 0 = M 0 1 := by rw [e_13, o_e_n (by decide), e9 6 (by omega)]; exact hl0
  refine o_aload_n dX11_save_16 rfl ?_
  refine o_gf dX11_save_17 fl_X11_12 rfl (by decide) rfl ?_
  refine o_gf dX11_save_20 fl_X11_94 rfl (by decide) rfl ?_
  refine o_gf dX11_save_23 fl_X11_168 rfl (by decide) rfl ?_
  refine o_ret1 dX11_save_26 trivial ?_
  refine x_xI rfl el.symm ⟨⟨o_st_c hst (fun a a1 a2 => by rw [e_13, o_e_n (by omega), e9 a (by omega)]), o_hs_c hxd.2.1 (fun a a1 a2 => by rw [e_13, o_e_n (by omega), e9 a (by omega)]), ⟨by rw [e_13, o_e_s]; rfl, fun M' hM => ?_⟩, x_m4_c hxd.2.2.2 (fun j hj => by rw [e_13, o_e_k (by omega), e9 0 (by omega)]) (by rw [e_13, o_e_n (by decide), e9 163 (by omega)]) (by rw [e_13, o_e_n (by decide), e9 164 (by omega)]) (by rw [e_13, o_e_n (by decide), e9 190 (by omega)]) (by rw [e_13, o_e_n (by decide), e9 191 (by omega)])⟩, fun a ha => ?_⟩
  · cases hM
    exact o_stb_c q_8.1 (fun a a1 a2 => by rw [e_13, o_e_n (by omega)])
  · have ha : ¬ a ≤ 191 := ha
    rw [e_13, o_e_n (by omega), e9 a (by omega)]
set_option maxRecDepth 100000 in
set_option maxHeartbeats 4000000 in
/-- restore() with nothing saved -/
theorem ct_X11_restoreN {l : Launch} (hl : l.stackTraces = false) (d : Nat) (g M : Nat → Nat → Int) (P : List (Nat → Nat → Int)) (T : Nat → Nat → Int) (hxd : o_xd g M P none T) (hwf : o_wf M) : o_Ct l yX11_restore wX11_restore (d + 2) o_no [.ref 0] o_N (o_mem g) 1 6 (x_x ["java/lang/IllegalStateException"] (1) (.int (o_I 0)) (M) (P) (none) (T) g) := by
  refine o_Ct.ofV hl mX11_restore (by decide +kernel) rfl rfl rfl (Nat.le_of_ble_eq_true rfl) ?_
  have hst := hxd.1
  obtain ⟨hrs, hrl, hrq, hg3, hg4, hg5, hg6⟩ := id hst
  obtain ⟨⟨hws, hwl, hwq, hwo, hwle, hwrq, hwrd⟩, hwh, hwc, hwe⟩ := id hwf
  have hs0 := hrs.1
  have hl0 := hrl.1
  have hq0 := hrq.1
  have hs1 := o_rs2 hrs
  have hl1 := o_rl6 hrl
  have hq1 := o_rq12 hrq
  obtain ⟨hw1, hw2, hw3⟩ := id hws
  obtain ⟨hw4, hw5, hw6, hw7, hw8⟩ := id hwl
  obtain ⟨hw9, hw10, hw11⟩ := id hwq
  have hwk := hwf.1
  refine o_aload_n dX11_restore_0 rfl ?_
  refine o_gf dX11_restore_1 fl_X11_378 rfl (by decide) rfl ?_
  rw [hxd.2.2.1.1, show o_b ((none : Option (Nat → Nat → Int)).isSome = true) = 0 from rfl]
  refine o_if_ne (tgt := 18) dX11_restore_4 (by decide) ⟨by omega, by omega⟩ (fun c => absurd rfl c) (fun _ => ?_)
  exact o_tx (ci := 14) (text := "no state was saved") (sn := 22) rfl tw_S (by decide) dX11_restore_7 dX11_restore_10 dX11_restore_11 dX11_restore_14 dX11_restore_17 (by decide) rfl rfl (by omega) (by omega) (by decide) (x_xN (by decide) rfl ⟨hxd, o_fr_r⟩)
set_option maxRecDepth 100000 in
set_option maxHeartbeats 4000000 in
/-- restore() -/
theorem ct_X11_restoreY {l : Launch} (hl : l.stackTraces = false) (d : Nat) (g M : Nat → Nat → Int) (P : List (Nat → Nat → Int)) (B : Nat → Nat → Int) (T : Nat → Nat → Int) (hxd : o_xd g M P (some B) T) (hwf : o_wf M) (hwB : o_wk B) : o_Ct l yX11_restore wX11_restore (d + 3) o_no [.ref 0] o_N (o_mem g) 1 6 (x_x [] (0) (.int (o_I (B 0 1))) (B) ([]) (some B) (T) g) := by
  refine o_Ct.ofV hl mX11_restore (by decide +kernel) rfl rfl rfl (Nat.le_of_ble_eq_true rfl) ?_
  have hst := hxd.1
  obtain ⟨hrs, hrl, hrq, hg3, hg4, hg5, hg6⟩ := id hst
  obtain ⟨⟨hws, hwl, hwq, hwo, hwle, hwrq, hwrd⟩, hwh, hwc, hwe⟩ := id hwf
  have hs0 := hrs.1
  have hl0 := hrl.1
  have hq0 := hrq.1
  have hs1 := o_rs2 hrs
  have hl1 := o_rl6 hrl
  have hq1 := o_rq12 hrq
  obtain ⟨hw1, hw2, hw3⟩ := id hws
  obtain ⟨hw4, hw5, hw6, hw7, hw8⟩ := id hwl
  obtain ⟨hw9, hw10, hw11⟩ := id hwq
  have hwk := hwf.1
  refine o_aload_n dX11_restore_0 rfl ?_
  refine o_gf dX11_restore_1 fl_X11_378 rfl (by decide) rfl ?_
  rw [hxd.2.2.1.1, show o_b ((some B : Option (Nat → Nat → Int)).isSome = true) = 1 from rfl]
  refine o_if_ne (tgt := 18) dX11_restore_4 (by decide) ⟨by omega, by omega⟩ (fun _ => ?_) (fun c => absurd c (by decide))
  refine o_aload_n dX11_restore_18 rfl ?_
  refine o_gf dX11_restore_19 fl_X11_12 rfl (by decide) rfl ?_
  refine o_aload_n dX11_restore_22 rfl ?_
  refine o_gf dX11_restore_23 fl_X11_19 rfl (by decide) rfl ?_
  refine o_cVm _ (ct_X10_copyFrom hl d g B 1 29 o_SB_1 o_SB_29 (by decide) (hxd.2.2.1.2 B rfl) hwB.1 hwB.2.1 hwB.2.2.1) dX11_restore_26 ml_X11_299 yw_X10_copyFrom rfl (by decide) (by omega) (by decide) rfl rfl rfl (Nat.le_of_ble_eq_true rfl) (fun g_26 q_26 => ?_)
  have x26 := x_chg hxd q_26
  refine o_aload_n dX11_restore_29 rfl ?_
  refine o_gf dX11_restore_30 fl_X11_25 rfl (by decide) rfl ?_
  refine o_cVm _ (ct_X5_clear hl d g_26 P x26.1.2.1) dX11_restore_33 ml_X11_384 yw_X5_clear rfl (by decide) (by omega) (by decide) rfl rfl rfl (Nat.le_of_ble_eq_true rfl) (fun g_33 q_33 => ?_)
  have x33 := x_push x26.1 q_33
  refine o_aload_n dX11_restore_36 rfl ?_
  refine o_gf dX11_restore_37 fl_X11_12 rfl (by decide) rfl ?_
  refine o_gf dX11_restore_40 fl_X11_94 rfl (by decide) rfl ?_
  refine o_gf dX11_restore_43 fl_X11_168 rfl (by decide) rfl ?_
  refine o_ret1 dX11_restore_46 trivial ?_
  exact x_xI rfl x33.1.1.2.1.1.symm ⟨x33.1, o_fr_t x26.2 x33.2⟩
set_option maxRecDepth 100000 in
set_option maxHeartbeats 4000000 in
/-- feed(c) with a full buffer -/
theorem ct_X11_feedN {l : Launch} (hl : l.stackTraces = false) (d : Nat) (g M : Nat → Nat → Int) (P : List (Nat → Nat → Int)) (S : Option (Nat → Nat → Int)) (T : Nat → Nat → Int) (hxd : o_xd g M P S T) (hwf : o_wf M) (c : Int) (hT : T 0 0 = 60) : o_Ct l yX11_feed wX11_feed (d + 2) o_no [.ref 0, .int (o_I c)] o_N (o_mem g) 1 6 (x_x ["java/lang/IllegalStateException"] (1) (.int (o_I 0)) (M) (P) (S) (T) g) := by
  refine o_Ct.ofV hl mX11_feed (by decide +kernel) rfl rfl rfl (Nat.le_of_ble_eq_true rfl) ?_
  have hst := hxd.1
  obtain ⟨hrs, hrl, hrq, hg3, hg4, hg5, hg6⟩ := id hst
  obtain ⟨⟨hws, hwl, hwq, hwo, hwle, hwrq, hwrd⟩, hwh, hwc, hwe⟩ := id hwf
  have hs0 := hrs.1
  have hl0 := hrl.1
  have hq0 := hrq.1
  have hs1 := o_rs2 hrs
  have hl1 := o_rl6 hrl
  have hq1 := o_rq12 hrq
  obtain ⟨hw1, hw2, hw3⟩ := id hws
  obtain ⟨hw4, hw5, hw6, hw7, hw8⟩ := id hwl
  obtain ⟨hw9, hw10, hw11⟩ := id hwq
  have hwk := hwf.1
  refine o_aload_n dX11_feed_0 rfl ?_
  refine o_gf dX11_feed_1 fl_X11_46 rfl (by decide) rfl ?_
  refine o_gf dX11_feed_4 fl_X11_274 rfl (by decide) rfl ?_
  refine o_bipush dX11_feed_7 (by decide) ?_
  rw [hxd.2.2.2.1, hT]
  refine o_icmp_lt (tgt := 23) dX11_feed_9 (by decide) ⟨by omega, by omega⟩ ⟨by omega, by omega⟩ (fun c => absurd c (by decide)) (fun _ => ?_)
  exact o_tx (ci := 14) (text := "the input buffer is full") (sn := 17) rfl tw_S (by decide) dX11_feed_12 dX11_feed_15 dX11_feed_16 dX11_feed_19 dX11_feed_22 (by decide) rfl rfl (by omega) (by omega) (by decide) (x_xN (by decide) rfl ⟨hxd, o_fr_r⟩)
set_option maxRecDepth 100000 in
set_option maxHeartbeats 4000000 in
/-- feed(c) -/
theorem ct_X11_feedY {l : Launch} (hl : l.stackTraces = false) (d : Nat) (g M : Nat → Nat → Int) (P : List (Nat → Nat → Int)) (S : Option (Nat → Nat → Int)) (T : Nat → Nat → Int) (hxd : o_xd g M P S T) (hwf : o_wf M) (c : Int) (hc : 0 ≤ c ∧ c < 65536) (hT0 : 0 ≤ T 0 0) (hT : T 0 0 < 60) : o_Ct l yX11_feed wX11_feed (d + 2) o_no [.ref 0, .int (o_I c)] o_N (o_mem g) 1 6 (x_x [] (0) (.int (o_I (T 0 0 + 1))) (M) (P) (S) (t_feed T c) g) := by
  refine o_Ct.ofV hl mX11_feed (by decide +kernel) rfl rfl rfl (Nat.le_of_ble_eq_true rfl) ?_
  have hst := hxd.1
  obtain ⟨hrs, hrl, hrq, hg3, hg4, hg5, hg6⟩ := id hst
  obtain ⟨⟨hws, hwl, hwq, hwo, hwle, hwrq, hwrd⟩, hwh, hwc, hwe⟩ := id hwf
  have hs0 := hrs.1
  have hl0 := hrl.1
  have hq0 := hrq.1
  have hs1 := o_rs2 hrs
  have hl1 := o_rl6 hrl
  have hq1 := o_rq12 hrq
  obtain ⟨hw1, hw2, hw3⟩ := id hws
  obtain ⟨hw4, hw5, hw6, hw7, hw8⟩ := id hwl
  obtain ⟨hw9, hw10, hw11⟩ := id hwq
  have hwk := hwf.1
  obtain ⟨m, hm⟩ : ∃ m : Nat, T 0 0 = (m : Int) := ⟨(T 0 0).toNat, by omega⟩
  have hm0 : g 163 2 = (m : Int) := by rw [hxd.2.2.2.1]; exact hm
  refine o_aload_n dX11_feed_0 rfl ?_
  refine o_gf dX11_feed_1 fl_X11_46 rfl (by decide) rfl ?_
  refine o_gf dX11_feed_4 fl_X11_274 rfl (by decide) rfl ?_
  refine o_bipush dX11_feed_7 (by decide) ?_
  rw [hm0]
  refine o_icmp_lt (tgt := 23) dX11_feed_9 (by decide) ⟨by omega, by omega⟩ ⟨by omega, by omega⟩ (fun c_9 => ?_) (fun c_9 => ?_)
  · skip
    refine o_aload_n dX11_feed_23 rfl ?_
    refine o_gf dX11_feed_24 fl_X11_46 rfl (by decide) rfl ?_
    refine o_iload_n dX11_feed_27 rfl ?_
    refine o_cVm _ (ct_X2_append hl d g m (by omega) hm0 c hc) dX11_feed_28 ml_X11_282 yw_X2_append rfl (by decide) (by omega) (by decide) rfl rfl rfl (Nat.le_of_ble_eq_true rfl) (fun g_28 q_28 => ?_)
    refine o_ret1 dX11_feed_31 trivial ?_
    refine x_xI rfl (by omega) ⟨⟨o_st_c hst (fun a a1 a2 => by rw [q_28, o_e_n (by omega), o_e_n (by omega)]), o_hs_c hxd.2.1 (fun a a1 a2 => by rw [q_28, o_e_n (by omega), o_e_n (by omega)]), x_m3_c hxd.2.2.1 (by rw [q_28, o_e_n (by decide), o_e_n (by decide)]) (fun a a1 a2 => by rw [q_28, o_e_n (by omega), o_e_n (by omega)]), ?_⟩, fun a ha => ?_⟩
    · obtain ⟨a1, a2, ⟨L, a3, a4, a5⟩, a6, a7, a8⟩ := hxd.2.2.2
      have e0 : g_28 0 = g 0 := by rw [q_28, o_e_n (by decide), o_e_n (by decide)]
      refine ⟨?_, fun j hj => ?_, ⟨L, o_sb_c a3 (by rw [q_28, o_e_n (by decide), o_e_n (by decide)]) (by rw [q_28, o_e_n (by decide), o_e_n (by decide)]), a4, a5⟩, by rw [e0]; exact a6, by rw [e0]; exact a7, fun z => by rw [e0]; exact a8 z⟩
      · rw [q_28, o_e_s]; unfold t_feed; rw [o_e_s, hm]
      · have hj : (j : Int) < T 0 0 + 1 := hj
        have e1 : t_feed T c 1 j = if j = m then c else T 1 j := by
          unfold t_feed
          rw [o_e_n (by decide), hm, Int.toNat_natCast]
          by_cases z : j = m
          · rw [if_pos z, z, o_e_s]
          · rw [if_neg z, o_e_k z]
        rw [e1, q_28, o_e_n (by decide)]
        by_cases z : j = m
        · rw [if_pos z, z, o_e_s]
        · rw [if_neg z, o_e_k z]; exact a2 j (by omega)
    · have ha : ¬ a ≤ 191 := ha
      rw [q_28, o_e_n (by omega), o_e_n (by omega)]
  · skip
    exfalso; omega
set_option maxRecDepth 100000 in
set_option maxHeartbeats 4000000 in
/-- errorPosition() -/
theorem ct_X11_errorPosition {l : Launch} (hl : l.stackTraces = false) (d : Nat) (g M : Nat → Nat → Int) (P : List (Nat → Nat → Int)) (S : Option (Nat → Nat → Int)) (T : Nat → Nat → Int) (hxd : o_xd g M P S T) (hwf : o_wf M) (htk : o_tk T) : o_Ct l yX11_errorPosition wX11_errorPosition (d + 2) o_no [.ref 0] o_N (o_mem g) 1 6 (x_x ["java/util/NoSuchElementException"] (1 - o_b (0 ≤ T 0 2)) (.int (o_I (T 0 2))) (M) (P) (S) (T) g) := by
  refine o_Ct.ofV hl mX11_errorPosition (by decide +kernel) rfl rfl rfl (Nat.le_of_ble_eq_true rfl) ?_
  have hst := hxd.1
  obtain ⟨hrs, hrl, hrq, hg3, hg4, hg5, hg6⟩ := id hst
  obtain ⟨⟨hws, hwl, hwq, hwo, hwle, hwrq, hwrd⟩, hwh, hwc, hwe⟩ := id hwf
  have hs0 := hrs.1
  have hl0 := hrl.1
  have hq0 := hrq.1
  have hs1 := o_rs2 hrs
  have hl1 := o_rl6 hrl
  have hq1 := o_rq12 hrq
  obtain ⟨hw1, hw2, hw3⟩ := id hws
  obtain ⟨hw4, hw5, hw6, hw7, hw8⟩ := id hwl
  obtain ⟨hw9, hw10, hw11⟩ := id hwq
  have hwk := hwf.1
  obtain ⟨tk0, tk1, tk2, tk3, tk4, tk5⟩ := htk
  obtain ⟨m1, m2, m3, m5, m6, m7⟩ := id hxd.2.2.2
  refine o_aload_n dX11_errorPosition_0 rfl ?_
  refine o_gf dX11_errorPosition_1 fl_X11_57 rfl (by decide) rfl ?_
  rw [m5]
  by_cases hn : T 0 2 = -1
  case pos => exact o_cSx _ (ct_X11_throwIfNothingB hl d o_N (o_mem g) (T 0 2) hn) dX11_errorPosition_4 ml_X11_205 ys_X11_throwIfNothing rfl (by decide) (by omega) (by omega) (by omega) rfl (Nat.le_of_ble_eq_true rfl) (o_T.out rfl (x_qN (by omega) ⟨hxd, o_fr_r⟩))
  refine o_cS _ (ct_X11_throwIfNothingA hl d o_N (o_mem g) (T 0 2) ⟨by omega, by omega⟩ hn) dX11_errorPosition_4 ml_X11_205 ys_X11_throwIfNothing rfl (by decide) (by omega) rfl (Nat.le_of_ble_eq_true rfl) ?_
  refine o_aload_n dX11_errorPosition_7 rfl ?_
  refine o_gf dX11_errorPosition_8 fl_X11_57 rfl (by decide) rfl ?_
  refine o_ret1 dX11_errorPosition_11 trivial ?_
  exact x_qI (by omega) m5.symm ⟨hxd, o_fr_r⟩
set_option maxRecDepth 100000 in
set_option maxHeartbeats 4000000 in
/-- failedCommand() -/
theorem ct_X11_failedCommand {l : Launch} (hl : l.stackTraces = false) (d : Nat) (g M : Nat → Nat → Int) (P : List (Nat → Nat → Int)) (S : Option (Nat → Nat → Int)) (T : Nat → Nat → Int) (hxd : o_xd g M P S T) (hwf : o_wf M) (htk : o_tk T) : o_Ct l yX11_failedCommand wX11_failedCommand (d + 2) o_no [.ref 0] o_N (o_mem g) 1 6 (x_x ["java/util/NoSuchElementException"] (1 - o_b (0 ≤ T 0 3)) (.int (o_I (T 0 3))) (M) (P) (S) (T) g) := by
  refine o_Ct.ofV hl mX11_failedCommand (by decide +kernel) rfl rfl rfl (Nat.le_of_ble_eq_true rfl) ?_
  have hst := hxd.1
  obtain ⟨hrs, hrl, hrq, hg3, hg4, hg5, hg6⟩ := id hst
  obtain ⟨⟨hws, hwl, hwq, hwo, hwle, hwrq, hwrd⟩, hwh, hwc, hwe⟩ := id hwf
  have hs0 := hrs.1
  have hl0 := hrl.1
  have hq0 := hrq.1
  have hs1 := o_rs2 hrs
  have hl1 := o_rl6 hrl
  have hq1 := o_rq12 hrq
  obtain ⟨hw1, hw2, hw3⟩ := id hws
  obtain ⟨hw4, hw5, hw6, hw7, hw8⟩ := id hwl
  obtain ⟨hw9, hw10, hw11⟩ := id hwq
  have hwk := hwf.1
  obtain ⟨tk0, tk1, tk2, tk3, tk4, tk5⟩ := htk
  obtain ⟨m1, m2, m3, m5, m6, m7⟩ := id hxd.2.2.2
  refine o_aload_n dX11_failedCommand_0 rfl ?_
  refine o_gf dX11_failedCommand_1 fl_X11_61 rfl (by decide) rfl ?_
  rw [m6]
  by_cases hn : T 0 3 = -1
  case pos => exact o_cSx _ (ct_X11_throwIfNothingB hl d o_N (o_mem g) (T 0 3) hn) dX11_failedCommand_4 ml_X11_205 ys_X11_throwIfNothing rfl (by decide) (by omega) (by omega) (by omega) rfl (Nat.le_of_ble_eq_true rfl) (o_T.out rfl (x_qN (by omega) ⟨hxd, o_fr_r⟩))
  refine o_cS _ (ct_X11_throwIfNothingA hl d o_N (o_mem g) (T 0 3) ⟨by omega, by omega⟩ hn) dX11_failedCommand_4 ml_X11_205 ys_X11_throwIfNothing rfl (by decide) (by omega) rfl (Nat.le_of_ble_eq_true rfl) ?_
  refine o_aload_n dX11_failedCommand_7 rfl ?_
  refine o_gf dX11_failedCommand_8 fl_X11_61 rfl (by decide) rfl ?_
  refine o_ret1 dX11_failedCommand_11 trivial ?_
  exact x_qI (by omega) m6.symm ⟨hxd, o_fr_r⟩
set_option maxRecDepth 100000 in
set_option maxHeartbeats 4000000 in
/-- failureReason() -/
theorem ct_X11_failureReason {l : Launch} (hl : l.stackTraces = false) (d : Nat) (g M : Nat → Nat → Int) (P : List (Nat → Nat → Int)) (S : Option (Nat → Nat → Int)) (T : Nat → Nat → Int) (hxd : o_xd g M P S T) (hwf : o_wf M) (htk : o_tk T) : o_Ct l yX11_failureReason wX11_failureReason (d + 2) o_no [.ref 0] o_N (o_mem g) 1 6 (x_x ["java/util/NoSuchElementException"] (1 - o_b (0 ≤ T 0 3)) (.int (o_I (T 0 4))) (M) (P) (S) (T) g) := by
  refine o_Ct.ofV hl mX11_failureReason (by decide +kernel) rfl rfl rfl (Nat.le_of_ble_eq_true rfl) ?_
  have hst := hxd.1
  obtain ⟨hrs, hrl, hrq, hg3, hg4, hg5, hg6⟩ := id hst
  obtain ⟨⟨hws, hwl, hwq, hwo, hwle, hwrq, hwrd⟩, hwh, hwc, hwe⟩ := id hwf
  have hs0 := hrs.1
  have hl0 := hrl.1
  have hq0 := hrq.1
  have hs1 := o_rs2 hrs
  have hl1 := o_rl6 hrl
  have hq1 := o_rq12 hrq
  obtain ⟨hw1, hw2, hw3⟩ := id hws
  obtain ⟨hw4, hw5, hw6, hw7, hw8⟩ := id hwl
  obtain ⟨hw9, hw10, hw11⟩ := id hwq
  have hwk := hwf.1
  obtain ⟨tk0, tk1, tk2, tk3, tk4, tk5⟩ := htk
  obtain ⟨m1, m2, m3, m5, m6, m7⟩ := id hxd.2.2.2
  refine o_aload_n dX11_failureReason_0 rfl ?_
  refine o_gf dX11_failureReason_1 fl_X11_61 rfl (by decide) rfl ?_
  rw [m6]
  by_cases hn : T 0 3 = -1
  case pos => exact o_cSx _ (ct_X11_throwIfNothingB hl d o_N (o_mem g) (T 0 3) hn) dX11_failureReason_4 ml_X11_205 ys_X11_throwIfNothing rfl (by decide) (by omega) (by omega) (by omega) rfl (Nat.le_of_ble_eq_true rfl) (o_T.out rfl (x_qN (by omega) ⟨hxd, o_fr_r⟩))
  refine o_cS _ (ct_X11_throwIfNothingA hl d o_N (o_mem g) (T 0 3) ⟨by omega, by omega⟩ hn) dX11_failureReason_4 ml_X11_205 ys_X11_throwIfNothing rfl (by decide) (by omega) rfl (Nat.le_of_ble_eq_true rfl) ?_
  refine o_aload_n dX11_failureReason_7 rfl ?_
  refine o_gf dX11_failureReason_8 fl_X11_64 rfl (by decide) rfl ?_
  rw [m7 (by omega)]
  refine o_ret1 dX11_failureReason_11 (by first | exact o_rcN _ (by omega) (by omega)) ?_
  exact x_qI (by omega) rfl ⟨hxd, o_fr_r⟩
set_option maxRecDepth 100000 in
set_option maxHeartbeats 4000000 in
/-- outputChar(i) -/
theorem ct_X11_outputChar {l : Launch} (hl : l.stackTraces = false) (d : Nat) (g M : Nat → Nat → Int) (P : List (Nat → Nat → Int)) (S : Option (Nat → Nat → Int)) (T : Nat → Nat → Int) (hxd : o_xd g M P S T) (hwf : o_wf M) (hT1 : 0 ≤ T 0 1 ∧ T 0 1 ≤ 120) (hch : ∀ j : Nat, (j : Int) < T 0 1 → 0 ≤ T 2 j ∧ T 2 j < 128) (i : Int) (hi : o_R i) : o_Ct l yX11_outputChar wX11_outputChar (d + 5) o_no [.ref 0, .int (o_I i)] o_N (o_mem g) 1 6 (x_x ["java/lang/IndexOutOfBoundsException"] (1 - o_b (0 ≤ i ∧ i < T 0 1)) (.int (o_I (T 2 i.toNat))) (M) (P) (S) (T) g) := by
  refine o_Ct.ofV hl mX11_outputChar (by decide +kernel) rfl rfl rfl (Nat.le_of_ble_eq_true rfl) ?_
  have hst := hxd.1
  obtain ⟨hrs, hrl, hrq, hg3, hg4, hg5, hg6⟩ := id hst
  obtain ⟨⟨hws, hwl, hwq, hwo, hwle, hwrq, hwrd⟩, hwh, hwc, hwe⟩ := id hwf
  have hs0 := hrs.1
  have hl0 := hrl.1
  have hq0 := hrq.1
  have hs1 := o_rs2 hrs
  have hl1 := o_rl6 hrl
  have hq1 := o_rq12 hrq
  obtain ⟨hw1, hw2, hw3⟩ := id hws
  obtain ⟨hw4, hw5, hw6, hw7, hw8⟩ := id hwl
  obtain ⟨hw9, hw10, hw11⟩ := id hwq
  have hwk := hwf.1
  obtain ⟨hi1, hi2⟩ := id hi
  obtain ⟨m1, m2, ⟨L, hL, hL1, hL2⟩, m5, m6, m7⟩ := id hxd.2.2.2
  refine o_iload_n dX11_outputChar_0 rfl ?_
  refine o_if_lt (tgt := 15) dX11_outputChar_1 (by decide) ⟨by omega, by omega⟩ (fun c_1 => ?_) (fun c_1 => ?_)
  · skip
    exact o_tx (ci := 12) (text := "there is no such character") (sn := 20) rfl tw_I (by decide) dX11_outputChar_15 dX11_outputChar_18 dX11_outputChar_19 dX11_outputChar_22 dX11_outputChar_25 (by decide) rfl rfl (by omega) (by omega) (by decide) (x_qN (by omega) ⟨hxd, o_fr_r⟩)
  · skip
    refine o_iload_n dX11_outputChar_4 rfl ?_
    refine o_aload_n dX11_outputChar_5 rfl ?_
    refine o_gf dX11_outputChar_6 fl_X11_53 rfl (by decide) rfl ?_
    refine o_cV _ (ct_J4_length_8abf5 hl d g L hL) dX11_outputChar_9 ml_X11_356 yw_J4_length_8abf5 rfl (by decide) (by omega) (by decide) rfl rfl rfl (Nat.le_of_ble_eq_true rfl) ?_
    refine o_icmp_lt (tgt := 26) dX11_outputChar_12 (by decide) ⟨by omega, by omega⟩ ⟨by omega, by omega⟩ (fun c_12 => ?_) (fun c_12 => ?_)
    · skip
      refine o_aload_n dX11_outputChar_26 rfl ?_
      refine o_gf dX11_outputChar_27 fl_X11_53 rfl (by decide) rfl ?_
      refine o_iload_n dX11_outputChar_30 rfl ?_
      refine o_cV _ (ct_J4_charAt_5068e hl d g L hL i ⟨by omega, by omega⟩) dX11_outputChar_31 ml_X11_369 yw_J4_charAt_5068e rfl (by decide) (by omega) (by decide) rfl rfl rfl (Nat.le_of_ble_eq_true rfl) ?_
      have hv := hL2 i.toNat (by omega)
      have hv2 := hch i.toNat (by omega)
      rw [← hv]
      refine o_ret1 dX11_outputChar_34 (by first | exact o_rcN _ (by omega) (by omega)) ?_
      exact x_qI ⟨by omega, by omega⟩ rfl ⟨hxd, o_fr_r⟩
    · skip
      exact o_tx (ci := 12) (text := "there is no such character") (sn := 20) rfl tw_I (by decide) dX11_outputChar_15 dX11_outputChar_18 dX11_outputChar_19 dX11_outputChar_22 dX11_outputChar_25 (by decide) rfl rfl (by omega) (by omega) (by decide) (x_qN (by omega) ⟨hxd, o_fr_r⟩)
