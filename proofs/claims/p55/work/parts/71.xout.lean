/-! the class's office: the lamps' text -/
theorem o_V.mc {l : Launch} {M : o_M} {d : Nat} {al : Nat → Prop} {post : o_P} {pc : Nat} {ls : List (Nat × Value)} {st : List Value} {n : Nat} {h : Nat → o_C} {mc ms mc' ms' : Nat} (k : o_V l M d al post pc ls st n h mc' ms') (h1 : mc' ≤ mc) (h2 : ms' ≤ ms) : o_V l M d al post pc ls st n h mc ms :=
  fun Z p e R s m args below meth c ad H locs cells slots MC MS la Q X E S P a1 a2 => k Z p e R s m args below meth c ad H locs cells slots MC MS la Q X E S P (by omega) (by omega)
def t_dsc (M : Nat → Nat → Int) (i : Nat) : List Int := t_num (M 4 i) ++ ((if 0 < M 5 i then [115] ++ (t_num (M 5 i - 1) ++ ([101] ++ t_num (M 6 i))) else []) ++ (if 0 ≤ m_pos M i then [114] else []))
theorem o_st_B {g g' M : Nat → Nat → Int} (h : o_st g M) (f : o_fr o_cB g g') : o_st g' M := o_st_c h (fun a a1 a2 => f a (fun z => by have z : a = 190 ∨ a = 191 := z; omega))
theorem m_pos_0 {M : Nat → Nat → Int} (h : o_wk M) {i : Nat} (hi : (i : Int) < M 0 1) (h0 : ¬ 0 < M 5 i) : m_pos M i = -1 := by
  have hp := o_ps_fst (fun k => M 9 k = (i : Int)) (M 0 6).toNat
  rw [show o_ps (fun k => M 9 k = (i : Int)) (M 0 6).toNat = m_pos M i from rfl] at hp
  rcases hp with ⟨q, -⟩ | ⟨k, q, hk, e, -⟩
  · exact q
  · exfalso
    have := h.2.2.2.2.2.1 k (by omega)
    rw [e, Int.toNat_natCast] at this
    exact h0 this
theorem m_pos_R {M : Nat → Nat → Int} (h : o_wk M) (i : Nat) : -1 ≤ m_pos M i ∧ m_pos M i < 8 := o_fst_R (o_ps_fst (fun k => M 9 k = (i : Int)) (M 0 6).toNat) (by have := h.2.2.1.2.1; omega)
set_option maxRecDepth 100000 in
set_option maxHeartbeats 4000000 in
/-- describe(lamp) -/
theorem ct_X11_describe {l : Launch} (hl : l.stackTraces = false) (d : Nat) (g : Nat → Nat → Int) (M : Nat → Nat → Int) (hst : o_st g M) (hwf : o_wf M) (L : List Int) (hsb : o_sb g L) (i : Nat) (hi : (i : Int) < M 0 1) (hL : L.length ≤ 92) : o_Ct l yX11_describe wX11_describe (d + 6) o_a1 [.ref 0, .int (o_I (i : Int))] o_N (o_mem g) 6 1320 (o_mt none (fun g' => o_sb g' (L ++ t_dsc M i) ∧ o_fr o_cB g g')) := by
  refine o_Ct.ofV hl mX11_describe (by decide +kernel) rfl rfl rfl (Nat.le_of_ble_eq_true rfl) ?_
  obtain ⟨hrs, hrl, hrq, hg3, hg4, hg5, hg6⟩ := id hst
  obtain ⟨⟨hws, hwl, hwq, hwo, hwle, hwrq, hwrd⟩, hwh, hwc, hwe⟩ := id hwf
  have hs0 := hrs.1
  have hl0 := hrl.1
  have hq0 := hrq.1
  have hs1 := o_rs2 hrs
  have hl1 := o_rl6 hrl
  have hq1 := o_rq12 hrq
  obtain ⟨hw1, hw2, hw3⟩ := id hws
  obtain ⟨hw4, hw5, hw6, hw7, hw8⟩ := id hwl
  obtain ⟨hw9, hw10, hw11⟩ := id hwq
  have hwk := hwf.1
  have hi8 := hw8 i hi
  have n1 := t_num_l1 (z := M 4 i) (by omega)
  have n2 := t_num_l1 (z := M 5 i - 1) (by omega)
  have n3 := t_num_l7 (z := M 6 i) (by omega)
  unfold t_num at n1 n2 n3
  have hpR := m_pos_R hwk i
  refine o_aload_n dX11_describe_0 rfl ?_
  refine o_gf dX11_describe_1 fl_X11_53 rfl (by decide) rfl ?_
  refine o_aload_n dX11_describe_4 rfl ?_
  refine o_gf dX11_describe_5 fl_X11_12 rfl (by decide) rfl ?_
  refine o_gf dX11_describe_8 fl_X11_94 rfl (by decide) rfl ?_
  refine o_gf dX11_describe_11 fl_X11_172 rfl (by decide) rfl ?_
  refine o_iload_n dX11_describe_14 rfl ?_
  refine o_ialdn (j := i) dX11_describe_15 (by decide) rfl (by decide) (by first | rfl | omega) (by omega) ?_
  rw [(hl1 i hi).1, show M 4 i = ((M 4 i).toNat : Int) by omega]
  refine o_cVa RJ4 [.int (o_I (((M 4 i).toNat : Nat) : Int))] (ct_J4_append_bf812 hl d g _ hsb (M 4 i).toNat (by omega) (by (try simp only [List.length_append, List.length_singleton]); omega)) dX11_describe_16 ml_X11_358 yw_J4_append_bf812 rfl (by decide) (by omega) (by omega) (by omega) (o_recW (by decide) rfl rfl) rfl (Nat.le_of_ble_eq_true rfl) rfl rfl (fun g_16 q_16 => ?_)
  obtain ⟨s16, r16⟩ := q_16
  have f16 := o_fr_t o_fr_r r16
  have st16 := o_st_B hst r16
  have hl16 := o_rl6 st16.2.1
  have hz16 : g_16 6 0 = M 0 1 := st16.2.1.1
  refine o_pop dX11_describe_19 rfl ?_
  refine o_aload_n dX11_describe_20 rfl ?_
  refine o_gf dX11_describe_21 fl_X11_12 rfl (by decide) rfl ?_
  refine o_gf dX11_describe_24 fl_X11_94 rfl (by decide) rfl ?_
  refine o_iload_n dX11_describe_27 rfl ?_
  refine o_cV _ (ct_X7_isTaken hl d g_16 M st16.2.1 hwl (i : Int) ⟨by omega, by omega⟩) dX11_describe_28 ml_X11_175 yw_X7_isTaken rfl (by decide) (by omega) (by decide) rfl rfl rfl (Nat.le_of_ble_eq_true rfl) ?_
  rw [Int.toNat_natCast]
  refine o_ifb_ne (tgt := 35) dX11_describe_31 (by decide) (fun c_31 => ?_) (fun c_31 => ?_)
  · skip
    refine o_aload_n dX11_describe_35 rfl ?_
    refine o_gf dX11_describe_36 fl_X11_53 rfl (by decide) rfl ?_
    refine o_bipush dX11_describe_39 (by decide) ?_
    refine o_cVa RJ4 [.int (o_I (115))] (ct_J4_append_cf468 hl d g_16 _ s16 (by (try simp only [List.length_append, List.length_singleton]); omega) 115 (by decide)) dX11_describe_41 ml_X11_350 yw_J4_append_cf468 rfl (by decide) (by omega) (by omega) (by omega) (o_recW (by decide) rfl rfl) rfl (Nat.le_of_ble_eq_true rfl) rfl rfl (fun g_41 q_41 => ?_)
    obtain ⟨s41, r41⟩ := q_41
    have f41 := o_fr_t f16 r41
    have st41 := o_st_B st16 r41
    have hl41 := o_rl6 st41.2.1
    have hz41 : g_41 6 0 = M 0 1 := st41.2.1.1
    refine o_aload_n dX11_describe_44 rfl ?_
    refine o_gf dX11_describe_45 fl_X11_12 rfl (by decide) rfl ?_
    refine o_gf dX11_describe_48 fl_X11_94 rfl (by decide) rfl ?_
    refine o_gf dX11_describe_51 fl_X11_179 rfl (by decide) rfl ?_
    refine o_iload_n dX11_describe_54 rfl ?_
    refine o_ialdn (j := i) dX11_describe_55 (by decide) rfl (by decide) (by first | rfl | omega) (by omega) ?_
    rw [(hl41 i hi).2.1, show M 5 i - 1 = ((M 5 i - 1).toNat : Int) by have := c_31.2.2; omega]
    refine o_cVa RJ4 [.int (o_I (((M 5 i - 1).toNat : Nat) : Int))] (ct_J4_append_bf812 hl d g_41 _ s41 (M 5 i - 1).toNat (by omega) (by (try simp only [List.length_append, List.length_singleton]); omega)) dX11_describe_56 ml_X11_358 yw_J4_append_bf812 rfl (by decide) (by omega) (by omega) (by omega) (o_recW (by decide) rfl rfl) rfl (Nat.le_of_ble_eq_true rfl) rfl rfl (fun g_56 q_56 => ?_)
    obtain ⟨s56, r56⟩ := q_56
    have f56 := o_fr_t f41 r56
    have st56 := o_st_B st41 r56
    have hl56 := o_rl6 st56.2.1
    have hz56 : g_56 6 0 = M 0 1 := st56.2.1.1
    refine o_pop dX11_describe_59 rfl ?_
    refine o_aload_n dX11_describe_60 rfl ?_
    refine o_gf dX11_describe_61 fl_X11_53 rfl (by decide) rfl ?_
    refine o_bipush dX11_describe_64 (by decide) ?_
    refine o_cVa RJ4 [.int (o_I (101))] (ct_J4_append_cf468 hl d g_56 _ s56 (by (try simp only [List.length_append, List.length_singleton]); omega) 101 (by decide)) dX11_describe_66 ml_X11_350 yw_J4_append_cf468 rfl (by decide) (by omega) (by omega) (by omega) (o_recW (by decide) rfl rfl) rfl (Nat.le_of_ble_eq_true rfl) rfl rfl (fun g_66 q_66 => ?_)
    obtain ⟨s66, r66⟩ := q_66
    have f66 := o_fr_t f56 r66
    have st66 := o_st_B st56 r66
    have hl66 := o_rl6 st66.2.1
    have hz66 : g_66 6 0 = M 0 1 := st66.2.1.1
    refine o_aload_n dX11_describe_69 rfl ?_
    refine o_gf dX11_describe_70 fl_X11_12 rfl (by decide) rfl ?_
    refine o_gf dX11_describe_73 fl_X11_94 rfl (by decide) rfl ?_
    refine o_gf dX11_describe_76 fl_X11_182 rfl (by decide) rfl ?_
    refine o_iload_n dX11_describe_79 rfl ?_
    refine o_ialdn (j := i) dX11_describe_80 (by decide) rfl (by decide) (by first | rfl | omega) (by omega) ?_
    rw [(hl66 i hi).2.2.1, show M 6 i = ((M 6 i).toNat : Int) by omega]
    refine o_cVa RJ4 [.int (o_I (((M 6 i).toNat : Nat) : Int))] (ct_J4_append_bf812 hl d g_66 _ s66 (M 6 i).toNat (by omega) (by (try simp only [List.length_append, List.length_singleton]); omega)) dX11_describe_81 ml_X11_358 yw_J4_append_bf812 rfl (by decide) (by omega) (by omega) (by omega) (o_recW (by decide) rfl rfl) rfl (Nat.le_of_ble_eq_true rfl) rfl rfl (fun g_81 q_81 => ?_)
    obtain ⟨s81, r81⟩ := q_81
    have f81 := o_fr_t f66 r81
    have st81 := o_st_B st66 r81
    have hl81 := o_rl6 st81.2.1
    have hz81 : g_81 6 0 = M 0 1 := st81.2.1.1
    refine o_pop dX11_describe_84 rfl ?_
    refine o_aload_n dX11_describe_85 rfl ?_
    refine o_gf dX11_describe_86 fl_X11_12 rfl (by decide) rfl ?_
    refine o_gf dX11_describe_89 fl_X11_121 rfl (by decide) rfl ?_
    refine o_iload_n dX11_describe_92 rfl ?_
    refine o_cV _ (ct_X8_positionOf hl d g_81 M st81.2.2.1 hwq (by omega) (i : Int) ⟨by omega, by omega⟩ (m_pos M i) (o_ps_fst (fun k => M 9 k = (i : Int)) (M 0 6).toNat)) dX11_describe_93 ml_X11_361 yw_X8_positionOf rfl (by decide) (by omega) (by decide) rfl rfl rfl (Nat.le_of_ble_eq_true rfl) ?_
    refine o_iconst dX11_describe_96 ?_
    refine o_icmp_eq (tgt := 110) dX11_describe_97 (by decide) ⟨by omega, by omega⟩ ⟨by omega, by omega⟩ (fun c_97 => ?_) (fun c_97 => ?_)
    · skip
      refine o_ret0 dX11_describe_110 trivial ?_
      have e : L ++ t_dsc M i = L ++ t_nf 8 (M 4 i).toNat ++ [115] ++ t_nf 8 (M 5 i - 1).toNat ++ [101] ++ t_nf 8 (M 6 i).toNat := by
        unfold t_dsc t_num
        rw [if_pos c_31.2.2, if_neg (by omega), List.append_nil]
        simp only [List.append_assoc]
      rw [e]
      exact ⟨rfl, rfl, g_81, rfl, s81, f81⟩
    · skip
      refine o_aload_n dX11_describe_100 rfl ?_
      refine o_gf dX11_describe_101 fl_X11_53 rfl (by decide) rfl ?_
      refine o_bipush dX11_describe_104 (by decide) ?_
      refine o_cVa RJ4 [.int (o_I (114))] (ct_J4_append_cf468 hl d g_81 _ s81 (by (try simp only [List.length_append, List.length_singleton]); omega) 114 (by decide)) dX11_describe_106 ml_X11_350 yw_J4_append_cf468 rfl (by decide) (by omega) (by omega) (by omega) (o_recW (by decide) rfl rfl) rfl (Nat.le_of_ble_eq_true rfl) rfl rfl (fun g_106 q_106 => ?_)
      obtain ⟨s106, r106⟩ := q_106
      have f106 := o_fr_t f81 r106
      have st106 := o_st_B st81 r106
      have hl106 := o_rl6 st106.2.1
      have hz106 : g_106 6 0 = M 0 1 := st106.2.1.1
      refine o_pop dX11_describe_109 rfl ?_
      refine o_ret0 dX11_describe_110 trivial ?_
      have e : L ++ t_dsc M i = L ++ t_nf 8 (M 4 i).toNat ++ [115] ++ t_nf 8 (M 5 i - 1).toNat ++ [101] ++ t_nf 8 (M 6 i).toNat ++ [114] := by
        unfold t_dsc t_num
        rw [if_pos c_31.2.2, if_pos (by omega)]
        simp only [List.append_assoc]
      rw [e]
      exact ⟨rfl, rfl, g_106, rfl, s106, f106⟩
  · skip
    refine o_ret0 dX11_describe_34 trivial ?_
    have h5 : ¬ 0 < M 5 i := fun z => c_31 ⟨by omega, by omega, z⟩
    have e : t_dsc M i = t_nf 8 (M 4 i).toNat := by
      unfold t_dsc t_num
      rw [if_neg h5, m_pos_0 hwk hi h5, if_neg (by decide), List.append_nil, List.append_nil]
    rw [e]
    exact ⟨rfl, rfl, g_16, rfl, s16, f16⟩
set_option maxRecDepth 100000 in
set_option maxHeartbeats 4000000 in
/-- writeLamps() -/
theorem ct_X11_writeLamps {l : Launch} (hl : l.stackTraces = false) (d : Nat) (g M : Nat → Nat → Int) (P : List (Nat → Nat → Int)) (S : Option (Nat → Nat → Int)) (T : Nat → Nat → Int) (hxd : o_xd g M P S T) (hwf : o_wf M) : o_Ct l yX11_writeLamps wX11_writeLamps (d + 7) o_a1 [.ref 0] o_N (o_mem g) 57 12540 (x_x [] (0) (.int (o_I ((t_all M (M 0 1).toNat).length : Int))) (M) (P) (S) (t_out T (t_all M (M 0 1).toNat)) g) := by
  refine o_Ct.ofV hl mX11_writeLamps (by decide +kernel) rfl rfl rfl (Nat.le_of_ble_eq_true rfl) ?_
  have hst := hxd.1
  obtain ⟨hrs, hrl, hrq, hg3, hg4, hg5, hg6⟩ := id hst
  obtain ⟨⟨hws, hwl, hwq, hwo, hwle, hwrq, hwrd⟩, hwh, hwc, hwe⟩ := id hwf
  have hs0 := hrs.1
  have hl0 := hrl.1
  have hq0 := hrq.1
  have hs1 := o_rs2 hrs
  have hl1 := o_rl6 hrl
  have hq1 := o_rq12 hrq
  obtain ⟨hw1, hw2, hw3⟩ := id hws
  obtain ⟨hw4, hw5, hw6, hw7, hw8⟩ := id hwl
  obtain ⟨hw9, hw10, hw11⟩ := id hwq
  have hwk := hwf.1
  have key := o_lp (fun i => ∀ g1, o_sb g1 (t_all M i) → o_fr o_cB g g1 → o_V l mX11_writeLamps (d + 7) o_a1 (x_x [] (0) (.int (o_I ((t_all M (M 0 1).toNat).length : Int))) (M) (P) (S) (t_out T (t_all M (M 0 1).toNat)) g) 10 [(0, .ref 0), (1, .int (o_I (i : Int)))] [] o_N (o_mem g1) (56 - 7 * i) (12320 - 1540 * i)) (M 0 1).toNat (fun i hi ih g1 s1 f1 => by
    have st1 := o_st_B hst f1
    have hz1 : g1 6 0 = M 0 1 := st1.2.1.1
    have hta := t_all_l hwf i (by omega)
    refine o_iload_n dX11_writeLamps_10 rfl ?_
    refine o_aload_n dX11_writeLamps_11 rfl ?_
    refine o_gf dX11_writeLamps_12 fl_X11_12 rfl (by decide) rfl ?_
    refine o_gf dX11_writeLamps_15 fl_X11_94 rfl (by decide) rfl ?_
    refine o_gf dX11_writeLamps_18 fl_X11_168 rfl (by decide) rfl ?_
    refine o_icmp_ge (tgt := 49) dX11_writeLamps_21 (by decide) ⟨by omega, by omega⟩ ⟨by omega, by omega⟩ (fun c_21 => ?_) (fun c_21 => ?_)
    · skip
      refine o_aload_n dX11_writeLamps_49 rfl ?_
      refine o_gf dX11_writeLamps_50 fl_X11_53 rfl (by decide) rfl ?_
      refine o_cV _ (ct_J4_length_8abf5 hl d g1 _ s1) dX11_writeLamps_53 ml_X11_356 yw_J4_length_8abf5 rfl (by decide) (by omega) (by decide) rfl rfl rfl (Nat.le_of_ble_eq_true rfl) ?_
      refine o_ret1 dX11_writeLamps_56 trivial ?_
      rw [show i = (M 0 1).toNat by omega] at s1 ⊢
      have e9 : ∀ a, a ≠ 190 → a ≠ 191 → g1 a = g a := fun a a1 a2 => f1 a (fun z => by have z : a = 190 ∨ a = 191 := z; omega)
      obtain ⟨m1, m2, m3, m5, m6, m7⟩ := hxd.2.2.2
      refine x_xY rfl ⟨⟨st1, o_hs_c hxd.2.1 (fun a a1 a2 => e9 a (by omega) (by omega)), x_m3_c hxd.2.2.1 (by rw [e9 0 (by decide) (by decide)]) (fun a a1 a2 => e9 a (by omega) (by omega)), ?_, ?_, ⟨_, s1, rfl, fun j hj => rfl⟩, ?_, ?_, ?_⟩, o_fr_m f1 (fun a ha => show a ≤ 191 by have ha : a = 190 ∨ a = 191 := ha; omega)⟩
      · rw [e9 163 (by decide) (by decide)]; exact m1
      · rw [e9 164 (by decide) (by decide)]; exact m2
      · rw [e9 0 (by decide) (by decide)]; exact m5
      · rw [e9 0 (by decide) (by decide)]; exact m6
      · rw [e9 0 (by decide) (by decide)]; exact m7
    · skip
      refine o_iload_n dX11_writeLamps_24 rfl ?_
      refine o_if_le (tgt := 38) dX11_writeLamps_25 (by decide) ⟨by omega, by omega⟩ (fun c_25 => ?_) (fun c_25 => ?_)
      · skip
        refine o_aload_n dX11_writeLamps_38 rfl ?_
        refine o_iload_n dX11_writeLamps_39 rfl ?_
        refine o_cVa RX11 [.int (o_I (i : Int))] (ct_X11_describe hl d g1 M st1 hwf _ s1 i (by omega) (by omega)) dX11_writeLamps_40 ml_X11_353 yw_X11_describe rfl (by decide) (by omega) (by omega) (by omega) (o_recW (by decide) rfl rfl) rfl (Nat.le_of_ble_eq_true rfl) rfl rfl (fun g_40 q_40 => ?_)
        refine o_iinc dX11_writeLamps_43 rfl (by decide) ?_
        refine o_goto (tgt := 10) dX11_writeLamps_46 (by decide) ?_
        exact o_loc [(0, .ref 0), (1, .int (o_I ((i + 1 : Nat) : Int)))] rfl (o_V.mc (ih (by omega) g_40 (by rw [show t_all M (i + 1) = t_all M i ++ t_dsc M i from by show t_all M i ++ t_lamp M i = _; unfold t_lamp t_dsc; rw [if_neg (by omega), List.nil_append]]; exact q_40.1) (o_fr_t f1 q_40.2)) (by omega) (by omega))
      · skip
        refine o_aload_n dX11_writeLamps_28 rfl ?_
        refine o_gf dX11_writeLamps_29 fl_X11_53 rfl (by decide) rfl ?_
        refine o_bipush dX11_writeLamps_32 (by decide) ?_
        refine o_cVa RJ4 [.int (o_I (32))] (ct_J4_append_cf468 hl d g1 _ s1 (by omega) 32 (by decide)) dX11_writeLamps_34 ml_X11_350 yw_J4_append_cf468 rfl (by decide) (by omega) (by omega) (by omega) (o_recW (by decide) rfl rfl) rfl (Nat.le_of_ble_eq_true rfl) rfl rfl (fun g_34 q_34 => ?_)
        refine o_pop dX11_writeLamps_37 rfl ?_
        refine o_aload_n dX11_writeLamps_38 rfl ?_
        refine o_iload_n dX11_writeLamps_39 rfl ?_
        refine o_cVa RX11 [.int (o_I (i : Int))] (ct_X11_describe hl d g_34 M (o_st_B st1 q_34.2) hwf _ q_34.1 i (by omega) (by rw [List.length_append, List.length_singleton]; omega)) dX11_writeLamps_40 ml_X11_353 yw_X11_describe rfl (by decide) (by omega) (by omega) (by omega) (o_recW (by decide) rfl rfl) rfl (Nat.le_of_ble_eq_true rfl) rfl rfl (fun g_40 q_40 => ?_)
        refine o_iinc dX11_writeLamps_43 rfl (by decide) ?_
        refine o_goto (tgt := 10) dX11_writeLamps_46 (by decide) ?_
        exact o_loc [(0, .ref 0), (1, .int (o_I ((i + 1 : Nat) : Int)))] rfl (o_V.mc (ih (by omega) g_40 (by rw [show t_all M (i + 1) = t_all M i ++ [32] ++ t_dsc M i from by show t_all M i ++ t_lamp M i = _; unfold t_lamp t_dsc; rw [if_pos (by omega), List.append_assoc]]; exact q_40.1) (o_fr_t (o_fr_t f1 q_34.2) q_40.2)) (by omega) (by omega)))
  obtain ⟨L, hsb, -⟩ := id hxd.2.2.2.2.2.1
  refine o_aload_n dX11_writeLamps_0 rfl ?_
  refine o_gf dX11_writeLamps_1 fl_X11_53 rfl (by decide) rfl ?_
  refine o_iconst dX11_writeLamps_4 ?_
  refine o_cVa RJ4 [.int (o_I (0))] (ct_J4_setLength_d00df hl d g L hsb) dX11_writeLamps_5 ml_X11_347 yw_J4_setLength_d00df rfl (by decide) (by omega) (by omega) (by omega) (o_recW (by decide) rfl rfl) rfl (Nat.le_of_ble_eq_true rfl) rfl rfl (fun g_5 q_5 => ?_)
  refine o_iconst dX11_writeLamps_8 ?_
  refine o_istore_n dX11_writeLamps_9 (by decide) ?_
  exact o_loc _ rfl (o_V.mc (key 0 (Nat.zero_le _) g_5 q_5.1 q_5.2) (by omega) (by omega))
