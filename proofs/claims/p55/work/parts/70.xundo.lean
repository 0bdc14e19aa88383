/-! the class's office: undo, save, texts -/
set_option maxRecDepth 100000 in
set_option maxHeartbeats 4000000 in
/-- undo() with nothing to undo -/
theorem ct_X11_undoN {l : Launch} (hl : l.stackTraces = false) (d : Nat) (g M : Nat → Nat → Int) (S : Option (Nat → Nat → Int)) (T : Nat → Nat → Int) (hxd : o_xd g M [] S T) (hwf : o_wf M) : o_Ct l yX11_undo wX11_undo (d + 2) o_no [.ref 0] o_N (o_mem g) 1 6 (x_x ["java/lang/IllegalStateException"] (1) (.int (o_I 0)) (M) ([]) (S) (T) g) := by
  refine o_Ct.ofV hl mX11_undo (by decide +kernel) rfl rfl rfl (Nat.le_of_ble_eq_true rfl) ?_
  have hst := hxd.1
  obtain ⟨hrs, hrl, hrq, hg3, hg4, hg5, hg6⟩ := id hst
  obtain ⟨⟨hws, hwl, hwq, hwo, hwle, hwrq, hwrd⟩, hwh, hwc, hwe⟩ := id hwf
  have hs0 := hrs.1
  have hl0 := hrl.1
  have hq0 := hrq.1
  have hs1 := o_rs2 hrs
  have hl1 := o_rl6 hrl
  have hq1 := o_rq12 hrq
  obtain ⟨hw1, hw2, hw3⟩ := id hws
  obtain ⟨hw4, hw5, hw6, hw7, hw8⟩ := id hwl
  obtain ⟨hw9, hw10, hw11⟩ := id hwq
  have hwk := hwf.1
  obtain ⟨ho, hh1, hh2, hh3, hh4, hh5⟩ := hxd.2.1
  refine o_aload_n dX11_undo_0 rfl ?_
  refine o_gf dX11_undo_1 fl_X11_25 rfl (by decide) rfl ?_
  refine o_gf dX11_undo_4 fl_X11_372 rfl (by decide) rfl ?_
  rw [hh3, show (([] : List (Nat → Nat → Int)).length : Int) = 0 from rfl]
  refine o_if_ne (tgt := 21) dX11_undo_7 (by decide) ⟨by omega, by omega⟩ (fun c => absurd rfl c) (fun _ => ?_)
  exact o_tx (ci := 14) (text := "no call can be undone") (sn := 21) rfl tw_S (by decide) dX11_undo_10 dX11_undo_13 dX11_undo_14 dX11_undo_17 dX11_undo_20 (by decide) rfl rfl (by omega) (by omega) (by decide) (x_xN (by decide) rfl ⟨hxd, o_fr_r⟩)
set_option maxRecDepth 100000 in
set_option maxHeartbeats 4000000 in
/-- undo() -/
theorem ct_X11_undoY {l : Launch} (hl : l.stackTraces = false) (d : Nat) (g M : Nat → Nat → Int) (P : List (Nat → Nat → Int)) (B : Nat → Nat → Int) (S : Option (Nat → Nat → Int)) (T : Nat → Nat → Int) (hxd : o_xd g M (P ++ [B]) S T) (hwf : o_wf M) (hwB : o_wk B) : o_Ct l yX11_undo wX11_undo (d + 4) o_no [.ref 0] o_N (o_mem g) 1 6 (x_x [] (0) (.int (o_I (P.length : Int))) (B) (P) (S) (T) g) := by
  refine o_Ct.ofV hl mX11_undo (by decide +kernel) rfl rfl rfl (Nat.le_of_ble_eq_true rfl) ?_
  have hst := hxd.1
  obtain ⟨hrs, hrl, hrq, hg3, hg4, hg5, hg6⟩ := id hst
  obtain ⟨⟨hws, hwl, hwq, hwo, hwle, hwrq, hwrd⟩, hwh, hwc, hwe⟩ := id hwf
  have hs0 := hrs.1
  have hl0 := hrl.1
  have hq0 := hrq.1
  have hs1 := o_rs2 hrs
  have hl1 := o_rl6 hrl
  have hq1 := o_rq12 hrq
  obtain ⟨hw1, hw2, hw3⟩ := id hws
  obtain ⟨hw4, hw5, hw6, hw7, hw8⟩ := id hwl
  obtain ⟨hw9, hw10, hw11⟩ := id hwq
  have hwk := hwf.1
  obtain ⟨ho, hh1, hh2, hh3, hh4, hh5⟩ := hxd.2.1
  rw [List.length_append, List.length_singleton] at hh4
  refine o_aload_n dX11_undo_0 rfl ?_
  refine o_gf dX11_undo_1 fl_X11_25 rfl (by decide) rfl ?_
  refine o_gf dX11_undo_4 fl_X11_372 rfl (by decide) rfl ?_
  rw [hh3, List.length_append, List.length_singleton]
  refine o_if_ne (tgt := 21) dX11_undo_7 (by decide) ⟨by omega, by omega⟩ (fun c_7 => ?_) (fun c_7 => ?_)
  · skip
    refine o_aload_n dX11_undo_21 rfl ?_
    refine o_gf dX11_undo_22 fl_X11_25 rfl (by decide) rfl ?_
    refine o_aload_n dX11_undo_25 rfl ?_
    refine o_gf dX11_undo_26 fl_X11_12 rfl (by decide) rfl ?_
    refine o_cVm _ (ct_X5_popInto hl d g P B hxd.2.1 hwB.1 hwB.2.1 hwB.2.2.1) dX11_undo_29 ml_X11_375 yw_X5_popInto rfl (by decide) (by omega) (by decide) rfl rfl rfl (Nat.le_of_ble_eq_true rfl) (fun g_29 q_29 => ?_)
    have e9 : ∀ a, ¬ ((1 ≤ a ∧ a < 15) ∨ a = 43) → g_29 a = g a := q_29.2.2
    refine o_aload_n dX11_undo_32 rfl ?_
    refine o_gf dX11_undo_33 fl_X11_25 rfl (by decide) rfl ?_
    refine o_gf dX11_undo_36 fl_X11_372 rfl (by decide) rfl ?_
    obtain ⟨ho, ij1, ij2, ij3, ij4, ij5⟩ := q_29.2.1
    refine o_ret1 dX11_undo_39 trivial ?_
    refine x_xI rfl ij3.symm ⟨⟨q_29.1, q_29.2.1, x_m3_c hxd.2.2.1 (by rw [e9 0 (by omega)]) (fun a a1 a2 => e9 a (by omega)), x_m4_c hxd.2.2.2 (fun j _ => by rw [e9 0 (by omega)]) (by rw [e9 163 (by omega)]) (e9 164 (by omega)) (e9 190 (by omega)) (e9 191 (by omega))⟩, o_fr_m q_29.2.2 (fun a ha => show a ≤ 191 by have ha : (1 ≤ a ∧ a < 15) ∨ a = 43 := ha; omega)⟩
  · skip
    exfalso; omega
set_option maxRecDepth 100000 in
set_option maxHeartbeats 4000000 in
/-- feed(c) with a full buffer -/
theorem ct_X11_feedN {l : Launch} (hl : l.stackTraces = false) (d : Nat) (g M : Nat → Nat → Int) (P : List (Nat → Nat → Int)) (S : Option (Nat → Nat → Int)) (T : Nat → Nat → Int) (hxd : o_xd g M P S T) (hwf : o_wf M) (c : Int) (hT : T 0 0 = 60) : o_Ct l yX11_feed wX11_feed (d + 2) o_no [.ref 0, .int (o_I c)] o_N (o_mem g) 1 6 (x_x ["java/lang/IllegalStateException"] (1) (.int (o_I 0)) (M) (P) (S) (T) g) := by
  refine o_Ct.ofV hl mX11_feed (by decide +kernel) rfl rfl rfl (Nat.le_of_ble_eq_true rfl) ?_
  have hst := hxd.1
  obtain ⟨hrs, hrl, hrq, hg3, hg4, hg5, hg6⟩ := id hst
  obtain ⟨⟨hws, hwl, hwq, hwo, hwle, hwrq, hwrd⟩, hwh, hwc, hwe⟩ := id hwf
  have hs0 := hrs.1
  have hl0 := hrl.1
  have hq0 := hrq.1
  have hs1 := o_rs2 hrs
  have hl1 := o_rl6 hrl
  have hq1 := o_rq12 hrq
  obtain ⟨hw1, hw2, hw3⟩ := id hws
  obtain ⟨hw4, hw5, hw6, hw7, hw8⟩ := id hwl
  obtain ⟨hw9, hw10, hw11⟩ := id hwq
  have hwk := hwf.1
  refine o_aload_n dX11_feed_0 rfl ?_
  refine o_gf dX11_feed_1 fl_X11_46 rfl (by decide) rfl ?_
  refine o_gf dX11_feed_4 fl_X11_274 rfl (by decide) rfl ?_
  refine o_bipush dX11_feed_7 (by decide) ?_
  rw [hxd.2.2.2.1, hT]
  refine o_icmp_lt (tgt := 23) dX11_feed_9 (by decide) ⟨by omega, by omega⟩ ⟨by omega, by omega⟩ (fun c => absurd c (by decide)) (fun _ => ?_)
  exact o_tx (ci := 14) (text := "the input buffer is full") (sn := 17) rfl tw_S (by decide) dX11_feed_12 dX11_feed_15 dX11_feed_16 dX11_feed_19 dX11_feed_22 (by decide) rfl rfl (by omega) (by omega) (by decide) (x_xN (by decide) rfl ⟨hxd, o_fr_r⟩)
set_option maxRecDepth 100000 in
set_option maxHeartbeats 4000000 in
/-- feed(c) -/
theorem ct_X11_feedY {l : Launch} (hl : l.stackTraces = false) (d : Nat) (g M : Nat → Nat → Int) (P : List (Nat → Nat → Int)) (S : Option (Nat → Nat → Int)) (T : Nat → Nat → Int) (hxd : o_xd g M P S T) (hwf : o_wf M) (c : Int) (hc : 0 ≤ c ∧ c < 65536) (hT0 : 0 ≤ T 0 0) (hT : T 0 0 < 60) : o_Ct l yX11_feed wX11_feed (d + 2) o_no [.ref 0, .int (o_I c)] o_N (o_mem g) 1 6 (x_x [] (0) (.int (o_I (T 0 0 + 1))) (M) (P) (S) (t_feed T c) g) := by
  refine o_Ct.ofV hl mX11_feed (by decide +kernel) rfl rfl rfl (Nat.le_of_ble_eq_true rfl) ?_
  have hst := hxd.1
  obtain ⟨hrs, hrl, hrq, hg3, hg4, hg5, hg6⟩ := id hst
  obtain ⟨⟨hws, hwl, hwq, hwo, hwle, hwrq, hwrd⟩, hwh, hwc, hwe⟩ := id hwf
  have hs0 := hrs.1
  have hl0 := hrl.1
  have hq0 := hrq.1
  have hs1 := o_rs2 hrs
  have hl1 := o_rl6 hrl
  have hq1 := o_rq12 hrq
  obtain ⟨hw1, hw2, hw3⟩ := id hws
  obtain ⟨hw4, hw5, hw6, hw7, hw8⟩ := id hwl
  obtain ⟨hw9, hw10, hw11⟩ := id hwq
  have hwk := hwf.1
  obtain ⟨m, hm⟩ : ∃ m : Nat, T 0 0 = (m : Int) := ⟨(T 0 0).toNat, by omega⟩
  have hm0 : g 163 2 = (m : Int) := by rw [hxd.2.2.2.1]; exact hm
  refine o_aload_n dX11_feed_0 rfl ?_
  refine o_gf dX11_feed_1 fl_X11_46 rfl (by decide) rfl ?_
  refine o_gf dX11_feed_4 fl_X11_274 rfl (by decide) rfl ?_
  refine o_bipush dX11_feed_7 (by decide) ?_
  rw [hm0]
  refine o_icmp_lt (tgt := 23) dX11_feed_9 (by decide) ⟨by omega, by omega⟩ ⟨by omega, by omega⟩ (fun c_9 => ?_) (fun c_9 => ?_)
  · skip
    refine o_aload_n dX11_feed_23 rfl ?_
    refine o_gf dX11_feed_24 fl_X11_46 rfl (by decide) rfl ?_
    refine o_iload_n dX11_feed_27 rfl ?_
    refine o_cVm _ (ct_X2_append hl d g m (by omega) hm0 c hc) dX11_feed_28 ml_X11_282 yw_X2_append rfl (by decide) (by omega) (by decide) rfl rfl rfl (Nat.le_of_ble_eq_true rfl) (fun g_28 q_28 => ?_)
    refine o_ret1 dX11_feed_31 trivial ?_
    refine x_xI rfl (by omega) ⟨⟨o_st_c hst (fun a a1 a2 => by rw [q_28, o_e_n (by omega), o_e_n (by omega)]), o_hs_c hxd.2.1 (fun a a1 a2 => by rw [q_28, o_e_n (by omega), o_e_n (by omega)]), x_m3_c hxd.2.2.1 (by rw [q_28, o_e_n (by decide), o_e_n (by decide)]) (fun a a1 a2 => by rw [q_28, o_e_n (by omega), o_e_n (by omega)]), ?_⟩, fun a ha => ?_⟩
    · obtain ⟨a1, a2, ⟨L, a3, a4, a5⟩, a6, a7, a8⟩ := hxd.2.2.2
      have e0 : g_28 0 = g 0 := by rw [q_28, o_e_n (by decide), o_e_n (by decide)]
      refine ⟨?_, fun j hj => ?_, ⟨L, o_sb_c a3 (by rw [q_28, o_e_n (by decide), o_e_n (by decide)]) (by rw [q_28, o_e_n (by decide), o_e_n (by decide)]), a4, a5⟩, by rw [e0]; exact a6, by rw [e0]; exact a7, fun z => by rw [e0]; exact a8 z⟩
      · rw [q_28, o_e_s]; unfold t_feed; rw [o_e_s, hm]
      · have hj : (j : Int) < T 0 0 + 1 := hj
        have e1 : t_feed T c 1 j = if j = m then c else T 1 j := by
          unfold t_feed
          rw [o_e_n (by decide), hm, Int.toNat_natCast]
          by_cases z : j = m
          · rw [if_pos z, z, o_e_s]
          · rw [if_neg z, o_e_k z]
        rw [e1, q_28, o_e_n (by decide)]
        by_cases z : j = m
        · rw [if_pos z, z, o_e_s]
        · rw [if_neg z, o_e_k z]; exact a2 j (by omega)
    · have ha : ¬ a ≤ 191 := ha
      rw [q_28, o_e_n (by omega), o_e_n (by omega)]
  · skip
    exfalso; omega
set_option maxRecDepth 100000 in
set_option maxHeartbeats 4000000 in
/-- outputChar(i) -/
theorem ct_X11_outputChar {l : Launch} (hl : l.stackTraces = false) (d : Nat) (g M : Nat → Nat → Int) (P : List (Nat → Nat → Int)) (S : Option (Nat → Nat → Int)) (T : Nat → Nat → Int) (hxd : o_xd g M P S T) (hwf : o_wf M) (hT1 : 0 ≤ T 0 1 ∧ T 0 1 ≤ 120) (hch : ∀ j : Nat, (j : Int) < T 0 1 → 0 ≤ T 2 j ∧ T 2 j < 128) (i : Int) (hi : o_R i) : o_Ct l yX11_outputChar wX11_outputChar (d + 5) o_no [.ref 0, .int (o_I i)] o_N (o_mem g) 1 6 (x_x ["java/lang/IndexOutOfBoundsException"] (1 - o_b (0 ≤ i ∧ i < T 0 1)) (.int (o_I (T 2 i.toNat))) (M) (P) (S) (T) g) := by
  refine o_Ct.ofV hl mX11_outputChar (by decide +kernel) rfl rfl rfl (Nat.le_of_ble_eq_true rfl) ?_
  have hst := hxd.1
  obtain ⟨hrs, hrl, hrq, hg3, hg4, hg5, hg6⟩ := id hst
  obtain ⟨⟨hws, hwl, hwq, hwo, hwle, hwrq, hwrd⟩, hwh, hwc, hwe⟩ := id hwf
  have hs0 := hrs.1
  have hl0 := hrl.1
  have hq0 := hrq.1
  have hs1 := o_rs2 hrs
  have hl1 := o_rl6 hrl
  have hq1 := o_rq12 hrq
  obtain ⟨hw1, hw2, hw3⟩ := id hws
  obtain ⟨hw4, hw5, hw6, hw7, hw8⟩ := id hwl
  obtain ⟨hw9, hw10, hw11⟩ := id hwq
  have hwk := hwf.1
  obtain ⟨hi1, hi2⟩ := id hi
  obtain ⟨m1, m2, ⟨L, hL, hL1, hL2⟩, m5, m6, m7⟩ := id hxd.2.2.2
  refine o_iload_n dX11_outputChar_0 rfl ?_
  refine o_if_lt (tgt := 15) dX11_outputChar_1 (by decide) ⟨by omega, by omega⟩ (fun c_1 => ?_) (fun c_1 => ?_)
  · skip
    exact o_tx (ci := 12) (text := "there is no such character") (sn := 20) rfl tw_I (by decide) dX11_outputChar_15 dX11_outputChar_18 dX11_outputChar_19 dX11_outputChar_22 dX11_outputChar_25 (by decide) rfl rfl (by omega) (by omega) (by decide) (x_qN (by omega) ⟨hxd, o_fr_r⟩)
  · skip
    refine o_iload_n dX11_outputChar_4 rfl ?_
    refine o_aload_n dX11_outputChar_5 rfl ?_
    refine o_gf dX11_outputChar_6 fl_X11_53 rfl (by decide) rfl ?_
    refine o_cV _ (ct_J4_length_8abf5 hl d g L hL) dX11_outputChar_9 ml_X11_356 yw_J4_length_8abf5 rfl (by decide) (by omega) (by decide) rfl rfl rfl (Nat.le_of_ble_eq_true rfl) ?_
    refine o_icmp_lt (tgt := 26) dX11_outputChar_12 (by decide) ⟨by omega, by omega⟩ ⟨by omega, by omega⟩ (fun c_12 => ?_) (fun c_12 => ?_)
    · skip
      refine o_aload_n dX11_outputChar_26 rfl ?_
      refine o_gf dX11_outputChar_27 fl_X11_53 rfl (by decide) rfl ?_
      refine o_iload_n dX11_outputChar_30 rfl ?_
      refine o_cV _ (ct_J4_charAt_5068e hl d g L hL i ⟨by omega, by omega⟩) dX11_outputChar_31 ml_X11_369 yw_J4_charAt_5068e rfl (by decide) (by omega) (by decide) rfl rfl rfl (Nat.le_of_ble_eq_true rfl) ?_
      have hv := hL2 i.toNat (by omega)
      have hv2 := hch i.toNat (by omega)
      rw [← hv]
      refine o_ret1 dX11_outputChar_34 (by first | exact o_rcN _ (by omega) (by omega)) ?_
      exact x_qI ⟨by omega, by omega⟩ rfl ⟨hxd, o_fr_r⟩
    · skip
      exact o_tx (ci := 12) (text := "there is no such character") (sn := 20) rfl tw_I (by decide) dX11_outputChar_15 dX11_outputChar_18 dX11_outputChar_19 dX11_outputChar_22 dX11_outputChar_25 (by decide) rfl rfl (by omega) (by omega) (by decide) (x_qN (by omega) ⟨hxd, o_fr_r⟩)

