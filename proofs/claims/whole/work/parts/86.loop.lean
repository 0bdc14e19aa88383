/-! the law's loop -/
set_option maxRecDepth 100000 in
set_option maxHeartbeats 4000000 in
theorem w_sw {l : Launch} (hl : l.stackTraces = false) {Z : o_Z} {post : o_P} {mc ms n : Nat} (hL : Z.2.2.2.1 ≤ 2048) (hn : 4 * n + 4 ≤ Z.2.2.2.1) (hn9 : n ≤ 512) (hmc : 57 ≤ mc) (hms : 12540 ≤ ms) {g M T : Nat → Nat → Int} {P : List (Nat → Nat → Int)} {S : Option (Nat → Nat → Int)} (hxd : o_xd g M P S T) (hmd : o_md g M P S T) (hw : w_in n M P S T) (K : w_go Z l post n mc ms) (c : Nat) (hc : c < 64) : o_Vz Z l mL_law 16 w_al post 44 (w_ls n) [.int (o_I (c : Int))] o_N (o_mem g) mc ms := by
  match c, hc with
  | 0, _ => exact oz_tableIn (off := 224) (tgt := 268) dL_law_44 (by decide) (by decide) rfl (by decide) (ld_0 hl hL hn hn9 hmc hms hxd hmd hw K)
  | 1, _ => exact oz_tableIn (off := 268) (tgt := 312) dL_law_44 (by decide) (by decide) rfl (by decide) (ld_1 hl hL hn hn9 hmc hms hxd hmd hw K)
  | 2, _ => exact oz_tableIn (off := 324) (tgt := 368) dL_law_44 (by decide) (by decide) rfl (by decide) (ld_2 hl hL hn hn9 hmc hms hxd hmd hw K)
  | 3, _ => exact oz_tableIn (off := 380) (tgt := 424) dL_law_44 (by decide) (by decide) rfl (by decide) (ld_3 hl hL hn hn9 hmc hms hxd hmd hw K)
  | 4, _ => exact oz_tableIn (off := 460) (tgt := 504) dL_law_44 (by decide) (by decide) rfl (by decide) (ld_4 hl hL hn hn9 hmc hms hxd hmd hw K)
  | 5, _ => exact oz_tableIn (off := 528) (tgt := 572) dL_law_44 (by decide) (by decide) rfl (by decide) (ld_5 hl hL hn hn9 hmc hms hxd hmd hw K)
  | 6, _ => exact oz_tableIn (off := 584) (tgt := 628) dL_law_44 (by decide) (by decide) rfl (by decide) (ld_6 hl hL hn hn9 hmc hms hxd hmd hw K)
  | 7, _ => exact oz_tableIn (off := 640) (tgt := 684) dL_law_44 (by decide) (by decide) rfl (by decide) (ld_7 hl hL hn hn9 hmc hms hxd hmd hw K)
  | 8, _ => exact oz_tableIn (off := 653) (tgt := 697) dL_law_44 (by decide) (by decide) rfl (by decide) (ld_8 hl hL hn hn9 hmc hms hxd hmd hw K)
  | 9, _ => exact oz_tableIn (off := 666) (tgt := 710) dL_law_44 (by decide) (by decide) rfl (by decide) (ld_9 hl hL hn hn9 hmc hms hxd hmd hw K)
  | 10, _ => exact oz_tableIn (off := 722) (tgt := 766) dL_law_44 (by decide) (by decide) rfl (by decide) (ld_10 hl hL hn hn9 hmc hms hxd hmd hw K)
  | 11, _ => exact oz_tableIn (off := 778) (tgt := 822) dL_law_44 (by decide) (by decide) rfl (by decide) (ld_11 hl hL hn hn9 hmc hms hxd hmd hw K)
  | 12, _ => exact oz_tableIn (off := 834) (tgt := 878) dL_law_44 (by decide) (by decide) rfl (by decide) (ld_12 hl hL hn hn9 hmc hms hxd hmd hw K)
  | 13, _ => exact oz_tableIn (off := 890) (tgt := 934) dL_law_44 (by decide) (by decide) rfl (by decide) (ld_13 hl hL hn hn9 hmc hms hxd hmd hw K)
  | 14, _ => exact oz_tableIn (off := 946) (tgt := 990) dL_law_44 (by decide) (by decide) rfl (by decide) (ld_14 hl hL hn hn9 hmc hms hxd hmd hw K)
  | 15, _ => exact oz_tableIn (off := 959) (tgt := 1003) dL_law_44 (by decide) (by decide) rfl (by decide) (ld_15 hl hL hn hn9 hmc hms hxd hmd hw K)
  | 16, _ => exact oz_tableIn (off := 1015) (tgt := 1059) dL_law_44 (by decide) (by decide) rfl (by decide) (ld_16 hl hL hn hn9 hmc hms hxd hmd hw K)
  | 17, _ => exact oz_tableIn (off := 1078) (tgt := 1122) dL_law_44 (by decide) (by decide) rfl (by decide) (ld_17 hl hL hn hn9 hmc hms hxd hmd hw K)
  | 18, _ => exact oz_tableIn (off := 1134) (tgt := 1178) dL_law_44 (by decide) (by decide) rfl (by decide) (ld_18 hl hL hn hn9 hmc hms hxd hmd hw K)
  | 19, _ => exact oz_tableIn (off := 1190) (tgt := 1234) dL_law_44 (by decide) (by decide) rfl (by decide) (ld_19 hl hL hn hn9 hmc hms hxd hmd hw K)
  | 20, _ => exact oz_tableIn (off := 1246) (tgt := 1290) dL_law_44 (by decide) (by decide) rfl (by decide) (ld_20 hl hL hn hn9 hmc hms hxd hmd hw K)
  | 21, _ => exact oz_tableIn (off := 1309) (tgt := 1353) dL_law_44 (by decide) (by decide) rfl (by decide) (ld_21 hl hL hn hn9 hmc hms hxd hmd hw K)
  | 22, _ => exact oz_tableIn (off := 1322) (tgt := 1366) dL_law_44 (by decide) (by decide) rfl (by decide) (ld_22 hl hL hn hn9 hmc hms hxd hmd hw K)
  | 23, _ => exact oz_tableIn (off := 1335) (tgt := 1379) dL_law_44 (by decide) (by decide) rfl (by decide) (ld_23 hl hL hn hn9 hmc hms hxd hmd hw K)
  | 24, _ => exact oz_tableIn (off := 1348) (tgt := 1392) dL_law_44 (by decide) (by decide) rfl (by decide) (ld_24 hl hL hn hn9 hmc hms hxd hmd hw K)
  | 25, _ => exact oz_tableIn (off := 1392) (tgt := 1436) dL_law_44 (by decide) (by decide) rfl (by decide) (ld_25 hl hL hn hn9 hmc hms hxd hmd hw K)
  | 26, _ => exact oz_tableIn (off := 1436) (tgt := 1480) dL_law_44 (by decide) (by decide) rfl (by decide) (ld_26 hl hL hn hn9 hmc hms hxd hmd hw K)
  | 27, _ => exact oz_tableIn (off := 1449) (tgt := 1493) dL_law_44 (by decide) (by decide) rfl (by decide) (ld_27 hl hL hn hn9 hmc hms hxd hmd hw K)
  | 28, _ => exact oz_tableIn (off := 1462) (tgt := 1506) dL_law_44 (by decide) (by decide) rfl (by decide) (ld_28 hl hL hn hn9 hmc hms hxd hmd hw K)
  | 29, _ => exact oz_tableIn (off := 1475) (tgt := 1519) dL_law_44 (by decide) (by decide) rfl (by decide) (ld_29 hl hL hn hn9 hmc hms hxd hmd hw K)
  | 30, _ => exact oz_tableIn (off := 1531) (tgt := 1575) dL_law_44 (by decide) (by decide) rfl (by decide) (ld_30 hl hL hn hn9 hmc hms hxd hmd hw K)
  | 31, _ => exact oz_tableIn (off := 1587) (tgt := 1631) dL_law_44 (by decide) (by decide) rfl (by decide) (ld_31 hl hL hn hn9 hmc hms hxd hmd hw K)
  | 32, _ => exact oz_tableIn (off := 1600) (tgt := 1644) dL_law_44 (by decide) (by decide) rfl (by decide) (ld_32 hl hL hn hn9 hmc hms hxd hmd hw K)
  | 33, _ => exact oz_tableIn (off := 1656) (tgt := 1700) dL_law_44 (by decide) (by decide) rfl (by decide) (ld_33 hl hL hn hn9 hmc hms hxd hmd hw K)
  | 34, _ => exact oz_tableIn (off := 1712) (tgt := 1756) dL_law_44 (by decide) (by decide) rfl (by decide) (ld_34 hl hL hn hn9 hmc hms hxd hmd hw K)
  | 35, _ => exact oz_tableIn (off := 1725) (tgt := 1769) dL_law_44 (by decide) (by decide) rfl (by decide) (ld_35 hl hL hn hn9 hmc hms hxd hmd hw K)
  | 36, _ => exact oz_tableIn (off := 1738) (tgt := 1782) dL_law_44 (by decide) (by decide) rfl (by decide) (ld_36 hl hL hn hn9 hmc hms hxd hmd hw K)
  | 37, _ => exact oz_tableIn (off := 1794) (tgt := 1838) dL_law_44 (by decide) (by decide) rfl (by decide) (ld_37 hl hL hn hn9 hmc hms hxd hmd hw K)
  | 38, _ => exact oz_tableIn (off := 1850) (tgt := 1894) dL_law_44 (by decide) (by decide) rfl (by decide) (ld_38 hl hL hn hn9 hmc hms hxd hmd hw K)
  | 39, _ => exact oz_tableIn (off := 1915) (tgt := 1959) dL_law_44 (by decide) (by decide) rfl (by decide) (ld_39 hl hL hn hn9 hmc hms hxd hmd hw K)
  | 40, _ => exact oz_tableIn (off := 1981) (tgt := 2025) dL_law_44 (by decide) (by decide) rfl (by decide) (ld_40 hl hL hn hn9 hmc hms hxd hmd hw K)
  | 41, _ => exact oz_tableIn (off := 1994) (tgt := 2038) dL_law_44 (by decide) (by decide) rfl (by decide) (ld_41 hl hL hn hn9 hmc hms hxd hmd hw K)
  | 42, _ => exact oz_tableIn (off := 2052) (tgt := 2096) dL_law_44 (by decide) (by decide) rfl (by decide) (ld_42 hl hL hn hn9 hmc hms hxd hmd hw K)
  | 43, _ => exact oz_tableIn (off := 2096) (tgt := 2140) dL_law_44 (by decide) (by decide) rfl (by decide) (ld_43 hl hL hn hn9 hmc hms hxd hmd hw K)
  | 44, _ => exact oz_tableIn (off := 2140) (tgt := 2184) dL_law_44 (by decide) (by decide) rfl (by decide) (ld_44 hl hL hn hn9 hmc hms hxd hmd hw K)
  | 45, _ => exact oz_tableIn (off := 2184) (tgt := 2228) dL_law_44 (by decide) (by decide) rfl (by decide) (ld_45 hl hL hn hn9 hmc hms hxd hmd hw K)
  | 46, _ => exact oz_tableIn (off := 2228) (tgt := 2272) dL_law_44 (by decide) (by decide) rfl (by decide) (ld_46 hl hL hn hn9 hmc hms hxd hmd hw K)
  | 47, _ => exact oz_tableIn (off := 2241) (tgt := 2285) dL_law_44 (by decide) (by decide) rfl (by decide) (ld_47 hl hL hn hn9 hmc hms hxd hmd hw K)
  | 48, _ => exact oz_tableIn (off := 2297) (tgt := 2341) dL_law_44 (by decide) (by decide) rfl (by decide) (ld_48 hl hL hn hn9 hmc hms hxd hmd hw K)
  | 49, _ => exact oz_tableIn (off := 2310) (tgt := 2354) dL_law_44 (by decide) (by decide) rfl (by decide) (ld_49 hl hL hn hn9 hmc hms hxd hmd hw K)
  | 50, _ => exact oz_tableIn (off := 2354) (tgt := 2398) dL_law_44 (by decide) (by decide) rfl (by decide) (ld_50 hl hL hn hn9 hmc hms hxd hmd hw K)
  | 51, _ => exact oz_tableIn (off := 2367) (tgt := 2411) dL_law_44 (by decide) (by decide) rfl (by decide) (ld_51 hl hL hn hn9 hmc hms hxd hmd hw K)
  | c + 52, hc =>
    have e : (o_I ((c + 52 : Nat) : Int)).toInt = ((c + 52 : Nat) : Int) := o_toInt ⟨by omega, by omega⟩
    refine oz_tableOut (tgt := 2455) dL_law_44 (Or.inr (by rw [e]; omega)) (by decide) ?_
    exact oz_mono (by omega) (by omega) (K g M P S T hxd hmd hw.s)
set_option maxRecDepth 100000 in
set_option maxHeartbeats 4000000 in
/-- the law's loop -/
theorem w_loop {l : Launch} (hl : l.stackTraces = false) {Z : o_Z} {post : o_P} (hpost : ∀ n h, post (.inl (some (.int (o_I 1)))) n h) (hL : Z.2.2.2.1 ≤ 2048) : ∀ (f n : Nat) (g M T : Nat → Nat → Int) (P : List (Nat → Nat → Int)) (S : Option (Nat → Nat → Int)) (mc ms : Nat), n + f = 512 → 4 * n ≤ Z.2.2.2.1 → 57 * f ≤ mc → 12540 * f ≤ ms → o_xd g M P S T → o_md g M P S T → w_in n M P S T → o_Vz Z l mL_law 16 w_al post 28 (w_ls n) [] o_N (o_mem g) mc ms := by
  intro f
  induction f with
  | zero =>
    intro n g M T P S mc ms hf hn hmc hms hxd hmd hw
    refine oz_loc [(0, .ref 5000000), (1, .ref 0), (2, .ref 192), (3, .ref 201), (4, .ref 202), (5, .int (o_I ((4 * n : Nat) : Int)))] rfl ?_
    refine oz_iload dL_law_28 rfl ?_
    refine oz_aload_n dL_law_30 rfl ?_
    refine oz_slen dL_law_31 ?_
    refine oz_iconst dL_law_32 ?_
    refine oz_isub dL_law_33 ?_
    refine oz_icmp_gt (tgt := 2461) dL_law_34 (by decide) ⟨by omega, by omega⟩ ⟨by omega, by omega⟩ (fun c9 => ?_) (fun c9 => ?_)
    · refine oz_iconst dL_law_2461 ?_
      exact oz_ret1 dL_law_2462 rfl (hpost _ _)
    · exfalso; omega
  | succ f ih =>
    intro n g M T P S mc ms hf hn hmc hms hxd hmd hw
    refine oz_loc [(0, .ref 5000000), (1, .ref 0), (2, .ref 192), (3, .ref 201), (4, .ref 202), (5, .int (o_I ((4 * n : Nat) : Int)))] rfl ?_
    refine oz_iload dL_law_28 rfl ?_
    refine oz_aload_n dL_law_30 rfl ?_
    refine oz_slen dL_law_31 ?_
    refine oz_iconst dL_law_32 ?_
    refine oz_isub dL_law_33 ?_
    refine oz_icmp_gt (tgt := 2461) dL_law_34 (by decide) ⟨by omega, by omega⟩ ⟨by omega, by omega⟩ (fun c9 => ?_) (fun c9 => ?_)
    · refine oz_iconst dL_law_2461 ?_
      exact oz_ret1 dL_law_2462 rfl (hpost _ _)
    · have hn4 : 4 * n + 4 ≤ Z.2.2.2.1 := by omega
      refine oz_aload_n dL_law_37 rfl ?_
      refine oz_iload dL_law_38 rfl ?_
      refine oz_sld (j := 4 * n) rfl (by omega) hL dL_law_40 ?_
      refine oz_bipush dL_law_41 (by decide) ?_
      refine oz_iand dL_law_43 ?_
      obtain ⟨c, hc, e⟩ := h_and (o_I (h_s Z (4 * n)))
      rw [e]
      refine w_sw hl hL hn4 (by omega) (by omega) (by omega) hxd hmd hw (fun g' M' P' S' T' a b w => ?_) c hc
      refine oz_loc [(0, .ref 5000000), (1, .ref 0), (2, .ref 192), (3, .ref 201), (4, .ref 202), (5, .int (o_I ((4 * n : Nat) : Int)))] rfl ?_
      refine oz_iinc dL_law_2455 rfl (by decide) ?_
      refine oz_goto (tgt := 28) dL_law_2458 (by decide) ?_
      refine oz_loc [(0, .ref 5000000), (1, .ref 0), (2, .ref 192), (3, .ref 201), (4, .ref 202), (5, .int (o_I ((4 * (n + 1) : Nat) : Int)))] ?_ (ih (n + 1) g' M' T' P' S' (mc - 57) (ms - 12540) (by omega) (by omega) (by omega) (by omega) a b w)
      rw [show ((4 * (n + 1) : Nat) : Int) = ((4 * n : Nat) : Int) + 4 by omega]
      rfl
