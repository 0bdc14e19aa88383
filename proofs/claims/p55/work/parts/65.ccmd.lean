/-! the class reads commands -/
def o_CB (b : Nat) : Prop := (∀ (f : Nat → Int) (z : Int), o_FF b f z = .inr (9, [.ref (1000000 + (f 0).toNat), .ref (b + 1)])) ∧ (∀ (f : Nat → Int) (z : Int), o_FF (b + 1) f z = .inl (0, 3, .inl (fun j => o_I (f j)))) ∧ b + 1 < 190 ∧ 166 ≤ b
theorem o_CB_0 : o_CB 166 := ⟨fun _ _ => rfl, fun _ _ => rfl, by decide, by decide⟩
theorem o_CB_1 : o_CB 168 := ⟨fun _ _ => rfl, fun _ _ => rfl, by decide, by decide⟩
theorem o_CB_2 : o_CB 170 := ⟨fun _ _ => rfl, fun _ _ => rfl, by decide, by decide⟩
theorem o_CB_3 : o_CB 172 := ⟨fun _ _ => rfl, fun _ _ => rfl, by decide, by decide⟩
theorem o_CB_4 : o_CB 174 := ⟨fun _ _ => rfl, fun _ _ => rfl, by decide, by decide⟩
theorem o_CB_5 : o_CB 176 := ⟨fun _ _ => rfl, fun _ _ => rfl, by decide, by decide⟩
theorem o_CB_6 : o_CB 178 := ⟨fun _ _ => rfl, fun _ _ => rfl, by decide, by decide⟩
theorem o_CB_7 : o_CB 180 := ⟨fun _ _ => rfl, fun _ _ => rfl, by decide, by decide⟩
theorem o_CB_8 : o_CB 182 := ⟨fun _ _ => rfl, fun _ _ => rfl, by decide, by decide⟩
theorem o_CB_9 : o_CB 184 := ⟨fun _ _ => rfl, fun _ _ => rfl, by decide, by decide⟩
theorem o_CB_10 : o_CB 186 := ⟨fun _ _ => rfl, fun _ _ => rfl, by decide, by decide⟩
theorem o_CB_11 : o_CB 188 := ⟨fun _ _ => rfl, fun _ _ => rfl, by decide, by decide⟩
theorem o_CBr {j : Nat} (hj : j < 12) : o_CB (166 + 2 * j) := by
  rcases (by omega : j = 0 ∨ j = 1 ∨ j = 2 ∨ j = 3 ∨ j = 4 ∨ j = 5 ∨ j = 6 ∨ j = 7 ∨ j = 8 ∨ j = 9 ∨ j = 10 ∨ j = 11) with rfl | rfl | rfl | rfl | rfl | rfl | rfl | rfl | rfl | rfl | rfl | rfl
  · exact o_CB_0
  · exact o_CB_1
  · exact o_CB_2
  · exact o_CB_3
  · exact o_CB_4
  · exact o_CB_5
  · exact o_CB_6
  · exact o_CB_7
  · exact o_CB_8
  · exact o_CB_9
  · exact o_CB_10
  · exact o_CB_11
theorem o_CB.F0 {b : Nat} (h : o_CB b) (g : Nat → Nat → Int) : o_mem g b = .inr (9, [.ref (1000000 + (g b 0).toNat), .ref (b + 1)]) := h.1 _ _
theorem o_CB.F1 {b : Nat} (h : o_CB b) (g : Nat → Nat → Int) : o_mem g (b + 1) = .inl (0, 3, .inl (fun j => o_I (g (b + 1) j))) := h.2.1 _ _
/-- a command in the class's table -/
def x_cA (g : Nat → Nat → Int) (b : Nat) (c : Nat × List Int) : Prop := g b 0 = c.1 ∧ ∀ i, i < c.2.length → g (b + 1) i = c.2.getD i 0
def x_pc (b : Nat) (g g' : Nat → Nat → Int) : Prop := (∀ a, a ≠ 163 → a ≠ b → a ≠ b + 1 → g' a = g a) ∧ ∀ j, j ≠ 4 → g' 163 j = g 163 j
theorem x_pc_t {b : Nat} {g g1 g2 : Nat → Nat → Int} (h1 : x_pc b g g1) (h2 : x_pc b g1 g2) : x_pc b g g2 := ⟨fun a x y z => (h2.1 a x y z).trans (h1.1 a x y z), fun j a => (h2.2 j a).trans (h1.2 j a)⟩
theorem x_pc_k {b : Nat} {g g1 : Nat → Nat → Int} (h : x_pk g g1) : x_pc b g g1 := ⟨fun a x _ _ => h.1 a x, h.2⟩
theorem x_pc_e {b : Nat} {g g1 g2 : Nat → Nat → Int} {j x : Nat} {z : Int} (h1 : x_pc b g g1) (e : g2 = o_e g1 x j z) (hx : x = b ∨ x = b + 1) (hb : 164 ≤ b) : x_pc b g g2 := x_pc_t h1 ⟨fun a h0 h1 h2 => by rw [e, o_e_n (by rcases hx with rfl | rfl <;> assumption)], fun i _ => by rw [e, o_e_n (by omega)]⟩
theorem x_pv_e {g g2 : Nat → Nat → Int} {t : Nat → Int} {n p j x : Nat} {z : Int} (h : x_pv g t n p) (e : g2 = o_e g x j z) (hx : 165 ≤ x) : x_pv g2 t n p := by
  rw [e]
  exact ⟨by rw [o_e_n (by omega)]; exact h.1, fun j hj => by rw [o_e_n (by omega)]; exact h.2.1 j hj, by rw [o_e_n (by omega)]; exact h.2.2.1, h.2.2.2⟩
set_option maxRecDepth 100000 in
set_option maxHeartbeats 4000000 in
/-- put(i, z) -/
theorem ct_X1_put {l : Launch} (hl : l.stackTraces = false) (d : Nat) (g : Nat → Nat → Int) (b : Nat) (hC : o_CB b) (i : Nat) (hi : i < 3) (z : Int) : o_Ct l yX1_put wX1_put (d + 1) o_no [.ref b, .int (o_I (i : Int)), .int (o_I z)] o_N (o_mem g) 0 0 (o_mt none (fun g' => g' = o_e g (b + 1) i z)) := by
  refine o_Ct.ofV hl mX1_put (by decide +kernel) rfl rfl rfl (Nat.le_of_ble_eq_true rfl) ?_
  refine o_iload_n dX1_put_0 rfl ?_
  refine o_if_lt (tgt := 16) dX1_put_1 (by decide) ⟨by omega, by omega⟩ (fun c_1 => ?_) (fun c_1 => ?_)
  · skip
    refine o_ret0 dX1_put_16 trivial ?_
    exfalso; omega
  · skip
    refine o_iload_n dX1_put_4 rfl ?_
    refine o_iconst dX1_put_5 ?_
    refine o_icmp_ge (tgt := 16) dX1_put_6 (by decide) ⟨by omega, by omega⟩ ⟨by omega, by omega⟩ (fun c_6 => ?_) (fun c_6 => ?_)
    · skip
      refine o_ret0 dX1_put_16 trivial ?_
      exfalso; omega
    · skip
      refine o_aload_n dX1_put_9 rfl ?_
      refine o_gf dX1_put_10 fl_X1_20 (hC.F0 g) (show b < 192 from by have := hC.2.2.1; omega) rfl ?_
      refine o_iload_n dX1_put_13 rfl ?_
      refine o_iload_n dX1_put_14 rfl ?_
      refine o_iaEn (j := i) dX1_put_15 (hC.F1 g) (show b + 1 < 192 from by have := hC.2.2.1; omega) (by decide) (by first | rfl | omega) (by omega) (fun f => (hC.2.1 f _).symm) (by have := hC.2.2.1; omega) (fun g_15 e_15 => ?_)
      refine o_ret0 dX1_put_16 trivial ?_
      exact o_mt0 e_15
set_option maxRecDepth 100000 in
set_option maxHeartbeats 4000000 in
/-- first() -/
theorem ct_X1_first {l : Launch} (hl : l.stackTraces = false) (d : Nat) (g : Nat → Nat → Int) (b : Nat) (hC : o_CB b) : o_Ct l yX1_first wX1_first (d + 1) o_no [.ref b] o_N (o_mem g) 0 0 (o_is (some (.int (o_I (g (b + 1) 0)))) o_N (o_mem g)) := by
  refine o_Ct.ofV hl mX1_first (by decide +kernel) rfl rfl rfl (Nat.le_of_ble_eq_true rfl) ?_
  refine o_aload_n dX1_first_0 rfl ?_
  refine o_gf dX1_first_1 fl_X1_20 (hC.F0 g) (show b < 192 from by have := hC.2.2.1; omega) rfl ?_
  refine o_iconst dX1_first_4 ?_
  refine o_ialdn (j := 0) dX1_first_5 (show b + 1 < 192 from by have := hC.2.2.1; omega) (hC.F1 g) (by decide) (by first | rfl | omega) (by omega) ?_
  refine o_ret1 dX1_first_6 trivial ?_
  exact ⟨rfl, rfl, rfl⟩
set_option maxRecDepth 100000 in
set_option maxHeartbeats 4000000 in
/-- second() -/
theorem ct_X1_second {l : Launch} (hl : l.stackTraces = false) (d : Nat) (g : Nat → Nat → Int) (b : Nat) (hC : o_CB b) : o_Ct l yX1_second wX1_second (d + 1) o_no [.ref b] o_N (o_mem g) 0 0 (o_is (some (.int (o_I (g (b + 1) 1)))) o_N (o_mem g)) := by
  refine o_Ct.ofV hl mX1_second (by decide +kernel) rfl rfl rfl (Nat.le_of_ble_eq_true rfl) ?_
  refine o_aload_n dX1_second_0 rfl ?_
  refine o_gf dX1_second_1 fl_X1_20 (hC.F0 g) (show b < 192 from by have := hC.2.2.1; omega) rfl ?_
  refine o_iconst dX1_second_4 ?_
  refine o_ialdn (j := 1) dX1_second_5 (show b + 1 < 192 from by have := hC.2.2.1; omega) (hC.F1 g) (by decide) (by first | rfl | omega) (by omega) ?_
  refine o_ret1 dX1_second_6 trivial ?_
  exact ⟨rfl, rfl, rfl⟩
set_option maxRecDepth 100000 in
set_option maxHeartbeats 4000000 in
/-- third() -/
theorem ct_X1_third {l : Launch} (hl : l.stackTraces = false) (d : Nat) (g : Nat → Nat → Int) (b : Nat) (hC : o_CB b) : o_Ct l yX1_third wX1_third (d + 1) o_no [.ref b] o_N (o_mem g) 0 0 (o_is (some (.int (o_I (g (b + 1) 2)))) o_N (o_mem g)) := by
  refine o_Ct.ofV hl mX1_third (by decide +kernel) rfl rfl rfl (Nat.le_of_ble_eq_true rfl) ?_
  refine o_aload_n dX1_third_0 rfl ?_
  refine o_gf dX1_third_1 fl_X1_20 (hC.F0 g) (show b < 192 from by have := hC.2.2.1; omega) rfl ?_
  refine o_iconst dX1_third_4 ?_
  refine o_ialdn (j := 2) dX1_third_5 (show b + 1 < 192 from by have := hC.2.2.1; omega) (hC.F1 g) (by decide) (by first | rfl | omega) (by omega) ?_
  refine o_ret1 dX1_third_6 trivial ?_
  exact ⟨rfl, rfl, rfl⟩
set_option maxRecDepth 100000 in
set_option maxHeartbeats 4000000 in
/-- readCommand(command) -/
theorem ct_X2_readCommand {l : Launch} (hl : l.stackTraces = false) (d : Nat) (g : Nat → Nat → Int) (t : Nat → Int) (n p : Nat) (hn : n ≤ 60) (ht : ∀ j, j < n → 0 ≤ t j ∧ t j < 65536) (hv : x_pv g t n p) (b : Nat) (hC : o_CB b) : o_Ct l yX2_readCommand wX2_readCommand (d + 8) o_no [.ref 163, .ref b] o_N (o_mem g) 0 0 (o_mt (some (.int (o_I (o_b ((p_cmd t n p).1 = true))))) (fun g' => x_pv g' t n (p_cmd t n p).2.1 ∧ x_pc b g g' ∧ ((p_cmd t n p).1 = true → x_cA g' b (p_cmd t n p).2.2))) := by
  refine o_Ct.ofV hl mX2_readCommand (by decide +kernel) rfl rfl rfl (Nat.le_of_ble_eq_true rfl) ?_
  obtain ⟨h1, h2, h3, h5⟩ := id hv
  have hb1 := hC.2.2.1
  have hb2 := hC.2.2.2
  have hsl := p_sel_lt t n p
  obtain ⟨s, hs⟩ : ∃ s, p_sel t n p = s := ⟨_, rfl⟩
  rw [hs] at hsl
  obtain ⟨q, hq0, hq1, hq2, hq3⟩ := o_kwA s hsl
  have hwl : (p_wt s).length = (p_wd s).length := by unfold p_wt; rw [List.length_map]
  have hw3 : (p_wd s).length ≤ 3 ∧ ∀ m ∈ p_wd s, 1 ≤ m ∧ m ≤ 3 := by
    rcases (by omega : s = 0 ∨ s = 1 ∨ s = 2 ∨ s = 3 ∨ s = 4 ∨ s = 5 ∨ s = 6) with z | z | z | z | z | z | z <;> rw [z] <;> decide
  have keyN : ∀ (ms : List Nat) (i : Nat) (N : List Int) (q9 : Nat) (g1 : Nat → Nat → Int), x_pc b g g1 → x_pv g1 t n q9 → i + ms.length = (p_wd s).length → (∀ k m, ms[k]? = some m → (p_wd s)[i + k]? = some m) → N.length = i → g1 b 0 = s → (∀ k, k < i → g1 (b + 1) k = N.getD k 0) → p_cmd t n p = ((p_nums t n ms q9).1, (p_nums t n ms q9).2.1, s, N ++ (p_nums t n ms q9).2.2) → o_V l mX2_readCommand (d + 8) o_no (o_mt (some (.int (o_I (o_b ((p_cmd t n p).1 = true))))) (fun g' => x_pv g' t n (p_cmd t n p).2.1 ∧ x_pc b g g' ∧ ((p_cmd t n p).1 = true → x_cA g' b (p_cmd t n p).2.2))) 42 [(0, .ref 163), (1, .ref b), (2, .ref (1000000 + s)), (3, .int (o_I (i : Int)))] [] o_N (o_mem g1) 0 0 := by
    intro ms
    induction ms with
    | nil =>
      intro i N q9 g1 fc hv1 hi hms hN hk0 hkN hcm
      rw [List.length_nil, Nat.add_zero] at hi
      have hcm : p_cmd t n p = (true, q9, s, N) := by rw [hcm]; show (true, q9, s, N ++ []) = _; rw [List.append_nil]
      refine o_iload_n dX2_readCommand_42 rfl ?_
      refine o_aload_n dX2_readCommand_43 rfl ?_
      refine o_gfC (v := .ref (2000000 + q.2.2.1)) (o := RX6) (n9 := "widths") (d9 := "Ljava/lang/String;") dX2_readCommand_44 (o_gT (i := 1596) (by decide +kernel) rfl) (fun Z ad s E => (z_kw hq0 Z ad s E).2.2.2.2.1) ?_
      refine o_cG RJ0 _ (ct_J0_length_8abf5 hl (d + 2) o_N (o_mem g1) q.2.2.1 (p_wt s) hq2) dX2_readCommand_47 ml_X2_62 yw_J0_length_8abf5 rfl (by decide) (by omega) (o_recC (fun Z ad s E => (z_sv hq2 Z ad s E).1)) rfl (Nat.le_of_ble_eq_true rfl) ?_
      rw [hwl]
      refine o_icmp_ge (tgt := 91) dX2_readCommand_50 (by decide) ⟨by omega, by omega⟩ ⟨by omega, by omega⟩ (fun c_50 => ?_) (fun c_50 => ?_)
      · skip
        refine o_iconst dX2_readCommand_91 ?_
        refine o_ret1 dX2_readCommand_92 (by first | exact o_rb0 | exact o_rb1 | exact o_bn _) ?_
        rw [hcm]
        exact ⟨rfl, rfl, g1, rfl, hv1, fc, fun _ => ⟨hk0, fun k hk => hkN k (by rw [← hN]; exact hk)⟩⟩
      · skip
        exfalso
        omega
    | cons m ms ih =>
      intro i N q9 g1 fc hv1 hi hms hN hk0 hkN hcm
      rw [List.length_cons] at hi
      have hm0 : (p_wd s)[i]? = some m := by have := hms 0 m rfl; rw [Nat.add_zero] at this; exact this
      have hm := hw3.2 m (List.mem_of_getElem? hm0)
      have hch : (p_wt s).getD i 0 = 48 + (m : Int) := by
        unfold p_wt
        rw [List.getD_eq_getElem?_getD, List.getElem?_map, hm0]; rfl
      have hpv := p_num_v t n q9 m hm.2
      have hpi := p_num_in (t := t) m hv1.2.2.2
      refine o_iload_n dX2_readCommand_42 rfl ?_
      refine o_aload_n dX2_readCommand_43 rfl ?_
      refine o_gfC (v := .ref (2000000 + q.2.2.1)) (o := RX6) (n9 := "widths") (d9 := "Ljava/lang/String;") dX2_readCommand_44 (o_gT (i := 1596) (by decide +kernel) rfl) (fun Z ad s E => (z_kw hq0 Z ad s E).2.2.2.2.1) ?_
      refine o_cG RJ0 _ (ct_J0_length_8abf5 hl (d + 2) o_N (o_mem g1) q.2.2.1 (p_wt s) hq2) dX2_readCommand_47 ml_X2_62 yw_J0_length_8abf5 rfl (by decide) (by omega) (o_recC (fun Z ad s E => (z_sv hq2 Z ad s E).1)) rfl (Nat.le_of_ble_eq_true rfl) ?_
      rw [hwl]
      refine o_icmp_ge (tgt := 91) dX2_readCommand_50 (by decide) ⟨by omega, by omega⟩ ⟨by omega, by omega⟩ (fun c_50 => ?_) (fun c_50 => ?_)
      · skip
        exfalso
        omega
      · skip
        refine o_aload_n dX2_readCommand_53 rfl ?_
        refine o_aload_n dX2_readCommand_54 rfl ?_
        refine o_gfC (v := .ref (2000000 + q.2.2.1)) (o := RX6) (n9 := "widths") (d9 := "Ljava/lang/String;") dX2_readCommand_55 (o_gT (i := 1596) (by decide +kernel) rfl) (fun Z ad s E => (z_kw hq0 Z ad s E).2.2.2.2.1) ?_
        refine o_iload_n dX2_readCommand_58 rfl ?_
        refine o_cG RJ0 _ (ct_J0_charAt_5068e hl (d + 2) o_N (o_mem g1) q.2.2.1 (p_wt s) hq2 (i : Int) (by omega)) dX2_readCommand_59 ml_X2_67 yw_J0_charAt_5068e rfl (by decide) (by omega) (o_recC (fun Z ad s E => (z_sv hq2 Z ad s E).1)) rfl (Nat.le_of_ble_eq_true rfl) ?_
        rw [Int.toNat_natCast, hch]
        refine o_bipush dX2_readCommand_62 (by decide) ?_
        refine o_isub dX2_readCommand_64 ?_
        rw [show (48 + (m : Int) - 48) = (m : Int) by omega]
        refine o_cVm _ (ct_X2_readBlankAndNumber hl (d + 5) g1 t n q9 hn ht hv1 m hm) dX2_readCommand_65 ml_X2_71 yw_X2_readBlankAndNumber rfl (by decide) (by omega) (by decide) rfl rfl rfl (Nat.le_of_ble_eq_true rfl) (fun g_65 q_65 => ?_)
        obtain ⟨hv65, f65⟩ := q_65
        have fc2 := x_pc_t fc (x_pc_k (b := b) f65)
        obtain ⟨v9, hv9⟩ : ∃ v9, (if (p_num t n m q9).1 = true then (p_num t n m q9).2.2 else -1) = v9 := ⟨_, rfl⟩
        rw [hv9]
        have hv9R : -1 ≤ v9 ∧ v9 ≤ 999 := by rw [← hv9]; split <;> omega
        refine o_istore dX2_readCommand_68 (by decide) ?_
        refine o_iload dX2_readCommand_70 rfl ?_
        refine o_iconst dX2_readCommand_72 ?_
        refine o_icmp_ne (tgt := 78) dX2_readCommand_73 (by decide) ⟨by omega, by omega⟩ ⟨by omega, by omega⟩ (fun c_73 => ?_) (fun c_73 => ?_)
        · skip
          refine o_aload_n dX2_readCommand_78 rfl ?_
          refine o_iload_n dX2_readCommand_79 rfl ?_
          refine o_iload dX2_readCommand_80 rfl ?_
          refine o_cVm _ (ct_X1_put hl (d + 6) g_65 b hC i (by omega) v9) dX2_readCommand_82 ml_X2_54 yw_X1_put rfl (by decide) (by omega) (show b < 192 from by omega) (hC.F0 g_65) rfl rfl (Nat.le_of_ble_eq_true rfl) (fun g_82 q_82 => ?_)
          refine o_iinc dX2_readCommand_85 rfl (by decide) ?_
          refine o_goto (tgt := 42) dX2_readCommand_88 (by decide) ?_
          have hyes : (p_num t n m q9).1 = true := by
            by_cases z : (p_num t n m q9).1 = true
            · exact z
            · exfalso; rw [if_neg z] at hv9; omega
          rw [if_pos hyes] at hv9
          have e9 : p_nums t n (m :: ms) q9 = ((p_nums t n ms (p_num t n m q9).2.1).1, (p_nums t n ms (p_num t n m q9).2.1).2.1, (p_num t n m q9).2.2 :: (p_nums t n ms (p_num t n m q9).2.1).2.2) := by
            show (if (p_num t n m q9).1 = true then _ else _ : Bool × Nat × List Int) = _
            rw [if_pos hyes]
          rw [e9] at hcm
          exact o_loc [(0, .ref 163), (1, .ref b), (2, .ref (1000000 + s)), (3, .int (o_I ((i + 1 : Nat) : Int)))] rfl (ih (i + 1) (N ++ [v9]) (p_num t n m q9).2.1 g_82 (x_pc_e fc2 q_82 (Or.inr rfl) (by omega)) (x_pv_e hv65 q_82 (by omega)) (by omega) (fun k m' hk => by
            have := hms (k + 1) m' hk
            rw [show i + (k + 1) = i + 1 + k by omega] at this
            exact this) (by rw [List.length_append, hN]; rfl) (by rw [q_82, o_e_n (by omega), f65.1 b (by omega)]; exact hk0) (fun k hk => by
            rw [o_getD_app (by rw [List.length_append, hN]; exact hk), q_82]
            by_cases z : k = i
            · rw [if_pos (by omega), z, o_e_s]
            · rw [if_neg (by omega), o_e_k z, f65.1 (b + 1) (by omega)]; exact hkN k (by omega)) (by rw [hcm, ← hv9, List.append_assoc]; rfl))
        · skip
          refine o_iconst dX2_readCommand_76 ?_
          refine o_ret1 dX2_readCommand_77 (by first | exact o_rb0 | exact o_rb1 | exact o_bn _) ?_
          have hno : (p_num t n m q9).1 = false := by
            by_cases z : (p_num t n m q9).1 = true
            · exfalso; rw [if_pos z] at hv9; omega
            · exact Bool.eq_false_iff.mpr z
          have e9 : p_nums t n (m :: ms) q9 = (false, (p_num t n m q9).2.1, []) := by
            show (if (p_num t n m q9).1 = true then _ else _ : Bool × Nat × List Int) = _
            rw [if_neg (by rw [hno]; decide)]
          rw [e9] at hcm
          rw [hcm]
          exact ⟨rfl, rfl, g_65, rfl, hv65, fc2, fun z => by cases z⟩
  have hwi := p_we_in (t := t) h5
  refine o_aload_n dX2_readCommand_0 rfl ?_
  refine o_cVm _ (ct_X2_readKeyword hl d g t n p hn ht hv) dX2_readCommand_1 ml_X2_40 yw_X2_readKeyword rfl (by decide) (by omega) (by decide) rfl rfl rfl (Nat.le_of_ble_eq_true rfl) (fun g_1 q_1 => ?_)
  obtain ⟨hv1, f1⟩ := q_1
  rw [hs]
  by_cases hfull : p_cl t n (p_W s) p = (p_W s).length
  · rw [if_pos hfull]
    refine o_astore_n dX2_readCommand_4 (by decide) ?_
    refine o_aload_n dX2_readCommand_5 rfl ?_
    refine o_ifnonnull (tgt := 11) dX2_readCommand_6 (by decide) ?_
    refine o_aload_n dX2_readCommand_11 rfl ?_
    refine o_aload_n dX2_readCommand_12 rfl ?_
    refine o_pf (k := 0) (h' := o_mem (o_e g_1 b 0 (s : Int))) dX2_readCommand_13 fp_X2_44 (hC.F0 g_1) (show b < 192 from by omega) (Nat.le_of_ble_eq_true rfl) (fun _ => rfl) (fun _ => rfl) ?_ ?_
    · rw [← o_ew]
      refine o_mw ?_ (by unfold o_w; rw [if_neg (by omega)])
      show _ = o_FF b _ _
      rw [hC.1]
      show Sum.inr (9, [Value.ref (1000000 + s), Value.ref (b + 1)]) = _
      rw [show o_u (g_1 b) 0 (s : Int) 0 = (s : Int) by simp [o_u], Int.toNat_natCast]
    obtain ⟨g_13, e_13⟩ : ∃ g', g' = o_e g_1 b 0 (s : Int) := ⟨_, rfl⟩
    rw [← e_13]
    have hv13 := x_pv_e hv1 e_13 (by omega)
    have fc13 : x_pc b g g_13 := x_pc_e (x_pc_k f1) e_13 (Or.inl rfl) (by omega)
    have k13 : g_13 b 0 = s := by rw [e_13, o_e_s]
    have hfull' := hfull
    rw [← hs] at hfull'
    have hxw := p_tx_R ht (p_we t n p)
    have entN : ¬ (s = 6 ∧ p_tx t n (p_we t n p) ≠ 32) → o_V l mX2_readCommand (d + 8) o_no (o_mt (some (.int (o_I (o_b ((p_cmd t n p).1 = true))))) (fun g' => x_pv g' t n (p_cmd t n p).2.1 ∧ x_pc b g g' ∧ ((p_cmd t n p).1 = true → x_cA g' b (p_cmd t n p).2.2))) 42 [(0, .ref 163), (1, .ref b), (2, .ref (1000000 + s)), (3, .int (o_I ((0 : Nat) : Int)))] [] o_N (o_mem g_13) 0 0 := fun h6 =>
      keyN (p_wd s) 0 [] (p_we t n p) g_13 fc13 hv13 (Nat.zero_add _) (fun k m hk => by rw [Nat.zero_add]; exact hk) rfl k13 (fun k hk => absurd hk (Nat.not_lt_zero k)) (by
        have e : p_cmd t n p = _ := if_pos hfull'
        rw [e, hs, if_neg h6]; rfl)
    refine o_aload_n dX2_readCommand_16 rfl ?_
    refine o_gfC (v := .int (o_I (o_b (s = 6)))) (o := RX6) (n9 := "numberIsOptional") (d9 := "Z") dX2_readCommand_17 (o_gT (i := 1595) (by decide +kernel) rfl) (fun Z ad s9 E => by have := (z_kw hq0 Z ad s9 E).2.2.2.2.2; rw [hq3] at this; exact this) ?_
    refine o_ifb_eq (tgt := 40) dX2_readCommand_20 (by decide) (fun c_20 => ?_) (fun c_20 => ?_)
    · refine o_iconst dX2_readCommand_40 ?_
      refine o_istore_n dX2_readCommand_41 (by decide) ?_
      exact o_loc _ rfl (entN (fun z => c_20 z.1))
    refine o_aload_n dX2_readCommand_23 rfl ?_
    refine o_bipush dX2_readCommand_24 (by decide) ?_
    refine o_cV _ (ct_X2_isAt hl (d + 5) g_13 t n (p_we t n p) hn ht hv13 32 (by decide)) dX2_readCommand_26 ml_X2_36 yw_X2_isAt rfl (by decide) (by omega) (by decide) rfl rfl rfl (Nat.le_of_ble_eq_true rfl) ?_
    refine o_ifb_ne (tgt := 40) dX2_readCommand_29 (by decide) (fun c_29 => ?_) (fun c_29 => ?_)
    · skip
      refine o_iconst dX2_readCommand_40 ?_
      refine o_istore_n dX2_readCommand_41 (by decide) ?_
      exact o_loc _ rfl (entN (fun z => z.2 c_29))
    · skip
      refine o_aload_n dX2_readCommand_32 rfl ?_
      refine o_iconst dX2_readCommand_33 ?_
      refine o_iconst dX2_readCommand_34 ?_
      refine o_cVm _ (ct_X1_put hl (d + 6) g_13 b hC 0 (by decide) 1) dX2_readCommand_35 ml_X2_54 yw_X1_put rfl (by decide) (by omega) (show b < 192 from by omega) (hC.F0 g_13) rfl rfl (Nat.le_of_ble_eq_true rfl) (fun g_35 q_35 => ?_)
      refine o_iconst dX2_readCommand_38 ?_
      refine o_ret1 dX2_readCommand_39 (by first | exact o_rb0 | exact o_rb1 | exact o_bn _) ?_
      have e : p_cmd t n p = (true, p_we t n p, 6, [1]) := by
        have e : p_cmd t n p = _ := if_pos hfull'
        rw [e, if_pos ⟨hs.trans c_20, c_29⟩]
      rw [e]
      exact ⟨rfl, rfl, g_35, rfl, x_pv_e hv13 q_35 (by omega), x_pc_e fc13 q_35 (Or.inr rfl) (by omega), fun _ => ⟨by rw [q_35, o_e_n (by omega), k13, c_20], fun k hk => by
        have hk : k < 1 := hk
        rcases (by omega : k = 0) with rfl
        rw [q_35, o_e_s]; rfl⟩⟩
  · rw [if_neg hfull]
    refine o_astore_nN dX2_readCommand_4 (by decide) ?_
    refine o_aload_nN dX2_readCommand_5 rfl ?_
    refine o_ifnonnullN dX2_readCommand_6 ?_
    refine o_iconst dX2_readCommand_9 ?_
    refine o_ret1 dX2_readCommand_10 (by first | exact o_rb0 | exact o_rb1 | exact o_bn _) ?_
    have e : p_cmd t n p = (false, p_we t n p, 0, []) := if_neg (by rw [hs]; exact hfull)
    rw [e]
    exact ⟨rfl, rfl, g_1, rfl, hv1, x_pc_k f1, fun z => by cases z⟩
def x_pd (g g' : Nat → Nat → Int) : Prop := (∀ a, a ≠ 163 → ¬ (166 ≤ a ∧ a ≤ 189) → g' a = g a) ∧ ∀ j, j ≠ 3 → j ≠ 4 → g' 163 j = g 163 j
theorem x_pd_t {g g1 g2 : Nat → Nat → Int} (h1 : x_pd g g1) (h2 : x_pd g1 g2) : x_pd g g2 := ⟨fun a x y => (h2.1 a x y).trans (h1.1 a x y), fun j a b => (h2.2 j a b).trans (h1.2 j a b)⟩
theorem x_pd_e {g g1 g2 : Nat → Nat → Int} {j : Nat} {z : Int} (h1 : x_pd g g1) (e : g2 = o_e g1 163 j z) (hj : j = 3 ∨ j = 4) : x_pd g g2 := x_pd_t h1 ⟨fun a x _ => by rw [e, o_e_n x], fun i a b => by rw [e, o_e_k (by omega)]⟩
theorem x_pd_c {b : Nat} {g g1 g2 : Nat → Nat → Int} (h1 : x_pd g g1) (h2 : x_pc b g1 g2) (hb : 166 ≤ b ∧ b + 1 ≤ 189) : x_pd g g2 := x_pd_t h1 ⟨fun a x y => h2.1 a x (by omega) (by omega), fun j _ b => h2.2 j b⟩
theorem x_pv_3 {g g2 : Nat → Nat → Int} {t : Nat → Int} {n p : Nat} {z : Int} (h : x_pv g t n p) (e : g2 = o_e g 163 3 z) : x_pv g2 t n p := by
  rw [e]
  exact ⟨by rw [o_e_k (by decide)]; exact h.1, fun j hj => by rw [o_e_n (by decide)]; exact h.2.1 j hj, by rw [o_e_k (by decide)]; exact h.2.2.1, h.2.2.2⟩
theorem x_cA_cg {g g' : Nat → Nat → Int} {b : Nat} {c : Nat × List Int} (h : x_cA g b c) (e0 : g' b = g b) (e1 : g' (b + 1) = g (b + 1)) : x_cA g' b c := ⟨by rw [e0]; exact h.1, fun i hi => by rw [e1]; exact h.2 i hi⟩
set_option maxRecDepth 100000 in
set_option maxHeartbeats 4000000 in
/-- parse() -/
theorem ct_X2_parse {l : Launch} (hl : l.stackTraces = false) (d : Nat) (g : Nat → Nat → Int) (t : Nat → Int) (n : Nat) (hn : n ≤ 60) (ht : ∀ j, j < n → 0 ≤ t j ∧ t j < 65536) (h1 : g 163 2 = n) (h2 : ∀ j, j < n → g 164 j = t j) : o_Ct l yX2_parse wX2_parse (d + 9) o_no [.ref 163] o_N (o_mem g) 0 0 (o_mt (some (.int (o_I (o_b ((p_all t n 12 0).1 = true))))) (fun g' => x_pd g g' ∧ g' 163 4 = (p_all t n 12 0).2.1 ∧ ((p_all t n 12 0).1 = true → g' 163 3 = (p_all t n 12 0).2.2.length ∧ ∀ j c, (p_all t n 12 0).2.2[j]? = some c → x_cA g' (166 + 2 * j) c))) := by
  refine o_Ct.ofV hl mX2_parse (by decide +kernel) rfl rfl rfl (Nat.le_of_ble_eq_true rfl) ?_
  have key := o_lp (fun i => ∀ (g1 : Nat → Nat → Int) (p0 : Nat) (Lp : List (Nat × List Int)), x_pd g g1 → x_pv g1 t n p0 → Lp.length = i → g1 163 3 = (i : Int) → (∀ j c, Lp[j]? = some c → x_cA g1 (166 + 2 * j) c) → (p_all t n 12 0) = ((p_all t n (12 - i) p0).1, (p_all t n (12 - i) p0).2.1, Lp ++ (p_all t n (12 - i) p0).2.2) → o_V l mX2_parse (d + 9) o_no (o_mt (some (.int (o_I (o_b ((p_all t n 12 0).1 = true))))) (fun g' => x_pd g g' ∧ g' 163 4 = (p_all t n 12 0).2.1 ∧ ((p_all t n 12 0).1 = true → g' 163 3 = (p_all t n 12 0).2.2.length ∧ ∀ j c, (p_all t n 12 0).2.2[j]? = some c → x_cA g' (166 + 2 * j) c))) 12 [(0, .ref 163), (1, .int (o_I (i : Int)))] [] o_N (o_mem g1) 0 0) 12 (fun i hi ih g1 p0 Lp fd hv1 hLl h3c hcs hx => by
    refine o_iload_n dX2_parse_12 rfl ?_
    refine o_bipush dX2_parse_13 (by decide) ?_
    refine o_icmp_ge (tgt := 83) dX2_parse_15 (by decide) ⟨by omega, by omega⟩ ⟨by omega, by omega⟩ (fun c_15 => ?_) (fun c_15 => ?_)
    · skip
      refine o_iconst dX2_parse_83 ?_
      refine o_ret1 dX2_parse_84 (by first | exact o_rb0 | exact o_rb1 | exact o_bn _) ?_
      have hi12 : 12 - i = 0 := by omega
      rw [hi12] at hx
      rw [hx]
      exact o_mtI (by rw [o_b0 (fun z => by cases z)]) ⟨fd, hv1.2.2.1, fun z => by cases z⟩
    · skip
      have hi12 : i < 12 := by omega
      obtain ⟨f, hf⟩ : ∃ f, 12 - i = f + 1 := ⟨12 - i - 1, by omega⟩
      have hin := p_cmd_in (t := t) hv1.2.2.2
      have ea : p_all t n (f + 1) p0 = (if (p_cmd t n p0).1 = true then (if n ≤ (p_cmd t n p0).2.1 then (true, (p_cmd t n p0).2.1, [(p_cmd t n p0).2.2]) else if p_tx t n (p_cmd t n p0).2.1 = 59 then ((p_all t n f ((p_cmd t n p0).2.1 + 1)).1, (p_all t n f ((p_cmd t n p0).2.1 + 1)).2.1, (p_cmd t n p0).2.2 :: (p_all t n f ((p_cmd t n p0).2.1 + 1)).2.2) else (false, (p_cmd t n p0).2.1, [(p_cmd t n p0).2.2])) else (false, (p_cmd t n p0).2.1, [])) := rfl
      rw [hf] at hx
      refine o_aload_n dX2_parse_18 rfl ?_
      refine o_aload_n dX2_parse_19 rfl ?_
      refine o_gf dX2_parse_20 fl_X2_17 rfl (by decide) rfl ?_
      refine o_iload_n dX2_parse_23 rfl ?_
      refine o_aaldn (j := i) dX2_parse_24 (by decide) rfl rfl (by decide) rfl (by omega) (show some _ = some (166 + 2 * i) from congrArg some (if_pos (by omega))) ?_
      refine o_cVm _ (ct_X2_readCommand hl d g1 t n p0 hn ht hv1 (166 + 2 * i) (o_CBr hi12)) dX2_parse_25 ml_X2_32 yw_X2_readCommand rfl (by decide) (by omega) (by decide) rfl rfl rfl (Nat.le_of_ble_eq_true rfl) (fun g_25 q_25 => ?_)
      obtain ⟨r1, r2, r3⟩ := q_25
      obtain ⟨n1, n2, n3, n4⟩ := id r1
      have fd2 := x_pd_c fd r2 (by omega)
      refine o_ifb_ne (tgt := 33) dX2_parse_28 (by decide) (fun c_28 => ?_) (fun c_28 => ?_)
      · skip
        rw [if_pos c_28] at ea
        refine o_aload_n dX2_parse_33 rfl ?_
        refine o_dup dX2_parse_34 rfl ?_
        refine o_gf dX2_parse_35 fl_X2_29 rfl (by decide) rfl ?_
        refine o_iconst dX2_parse_38 ?_
        refine o_iadd dX2_parse_39 ?_
        refine o_pmE dX2_parse_40 fp_X2_29 rfl (by decide) (Nat.le_of_ble_eq_true rfl) rfl rfl (fun _ => rfl) (by decide) (fun g_40 e_40 => ?_)
        have fd3 := x_pd_e fd2 e_40 (Or.inl rfl)
        have k2 : g_40 163 2 = n := by rw [e_40, o_e_k (by decide)]; exact n1
        have k4 : g_40 163 4 = (p_cmd t n p0).2.1 := by rw [e_40, o_e_k (by decide)]; exact n3
        have k3 : g_40 163 3 = (i : Int) + 1 := by rw [e_40, o_e_s, r2.2 3 (by decide), h3c]
        refine o_aload_n dX2_parse_43 rfl ?_
        refine o_gf dX2_parse_44 fl_X2_26 rfl (by decide) rfl ?_
        refine o_aload_n dX2_parse_47 rfl ?_
        refine o_gf dX2_parse_48 fl_X2_22 rfl (by decide) rfl ?_
        refine o_icmp_lt (tgt := 56) dX2_parse_51 (by decide) ⟨by omega, by omega⟩ ⟨by omega, by omega⟩ (fun c_51 => ?_) (fun c_51 => ?_)
        · skip
          rw [if_neg (by omega)] at ea
          refine o_aload_n dX2_parse_56 rfl ?_
          refine o_bipush dX2_parse_57 (by decide) ?_
          refine o_cV _ (ct_X2_isAt hl (d + 7) g_40 t n (p_cmd t n p0).2.1 hn ht (x_pv_3 r1 e_40) 59 (by decide)) dX2_parse_59 ml_X2_36 yw_X2_isAt rfl (by decide) (by omega) (by decide) rfl rfl rfl (Nat.le_of_ble_eq_true rfl) ?_
          refine o_ifb_ne (tgt := 67) dX2_parse_62 (by decide) (fun c_62 => ?_) (fun c_62 => ?_)
          · skip
            have hlt : (p_cmd t n p0).2.1 < n := p_tx_in (t := t) (by omega)
            rw [if_pos c_62] at ea
            rw [ea] at hx
            have hcat : ∀ j c, (Lp ++ [(p_cmd t n p0).2.2])[j]? = some c → x_cA g_40 (166 + 2 * j) c := fun j c hj => by
              rcases Nat.lt_or_ge j Lp.length with z | z
              · rw [List.getElem?_append_left z] at hj
                exact x_cA_cg (hcs j c hj) (by rw [e_40, o_e_n (by omega), r2.1 _ (by omega) (by omega) (by omega)]) (by rw [e_40, o_e_n (by omega), r2.1 _ (by omega) (by omega) (by omega)])
              · rw [List.getElem?_append_right z] at hj
                have z2 : j - Lp.length = 0 := by
                  rcases Nat.eq_zero_or_pos (j - Lp.length) with q | q
                  · exact q
                  · rw [List.getElem?_eq_none (by show 1 ≤ _; omega)] at hj; cases hj
                rw [z2] at hj
                cases hj
                rw [show j = i by omega]
                exact x_cA_cg (r3 c_28) (by rw [e_40, o_e_n (by omega)]) (by rw [e_40, o_e_n (by omega)])
            refine o_aload_n dX2_parse_67 rfl ?_
            refine o_dup dX2_parse_68 rfl ?_
            refine o_gf dX2_parse_69 fl_X2_26 rfl (by decide) rfl ?_
            refine o_iconst dX2_parse_72 ?_
            refine o_iadd dX2_parse_73 ?_
            refine o_pmE dX2_parse_74 fp_X2_26 rfl (by decide) (Nat.le_of_ble_eq_true rfl) rfl rfl (fun _ => rfl) (by decide) (fun g_74 e_74 => ?_)
            refine o_iinc dX2_parse_77 rfl (by decide) ?_
            refine o_goto (tgt := 12) dX2_parse_80 (by decide) ?_
            exact o_loc [(0, .ref 163), (1, .int (o_I ((i + 1 : Nat) : Int)))] rfl (ih (by omega) g_74 ((p_cmd t n p0).2.1 + 1) (Lp ++ [(p_cmd t n p0).2.2]) (x_pd_e fd3 e_74 (Or.inr rfl)) (x_pv_4 (x_pv_3 r1 e_40) e_74 (by omega) (by omega)) (by rw [List.length_append, hLl]; rfl) (by rw [e_74, o_e_k (by decide), k3]; rfl) (fun j c hj => x_cA_cg (hcat j c hj) (by rw [e_74, o_e_n (by omega)]) (by rw [e_74, o_e_n (by omega)])) (by rw [hx, show 12 - (i + 1) = f by omega, List.append_assoc]; rfl))
          · skip
            refine o_iconst dX2_parse_65 ?_
            refine o_ret1 dX2_parse_66 (by first | exact o_rb0 | exact o_rb1 | exact o_bn _) ?_
            rw [if_neg c_62] at ea
            rw [ea] at hx
            rw [hx]
            exact o_mtI (by rw [o_b0 (fun z => by cases z)]) ⟨fd3, k4, fun z => by cases z⟩
        · skip
          rw [if_pos (by omega)] at ea
          rw [ea] at hx
          have hcat : ∀ j c, (Lp ++ [(p_cmd t n p0).2.2])[j]? = some c → x_cA g_40 (166 + 2 * j) c := fun j c hj => by
            rcases Nat.lt_or_ge j Lp.length with z | z
            · rw [List.getElem?_append_left z] at hj
              exact x_cA_cg (hcs j c hj) (by rw [e_40, o_e_n (by omega), r2.1 _ (by omega) (by omega) (by omega)]) (by rw [e_40, o_e_n (by omega), r2.1 _ (by omega) (by omega) (by omega)])
            · rw [List.getElem?_append_right z] at hj
              have z2 : j - Lp.length = 0 := by
                rcases Nat.eq_zero_or_pos (j - Lp.length) with q | q
                · exact q
                · rw [List.getElem?_eq_none (by show 1 ≤ _; omega)] at hj; cases hj
              rw [z2] at hj
              cases hj
              rw [show j = i by omega]
              exact x_cA_cg (r3 c_28) (by rw [e_40, o_e_n (by omega)]) (by rw [e_40, o_e_n (by omega)])
          refine o_iconst dX2_parse_54 ?_
          refine o_ret1 dX2_parse_55 (by first | exact o_rb0 | exact o_rb1 | exact o_bn _) ?_
          rw [hx]
          exact o_mtI (by rw [o_b1 rfl]) ⟨fd3, k4, fun _ => ⟨by rw [k3]; show _ = (((Lp ++ [_]).length : Nat) : Int); rw [List.length_append, hLl]; rfl, hcat⟩⟩
      · skip
        refine o_iconst dX2_parse_31 ?_
        refine o_ret1 dX2_parse_32 (by first | exact o_rb0 | exact o_rb1 | exact o_bn _) ?_
        rw [if_neg c_28] at ea
        rw [ea] at hx
        rw [hx]
        exact o_mtI (by rw [o_b0 (fun z => by cases z)]) ⟨fd2, n3, fun z => by cases z⟩)
  refine o_aload_n dX2_parse_0 rfl ?_
  refine o_iconst dX2_parse_1 ?_
  refine o_pmE dX2_parse_2 fp_X2_26 rfl (by decide) (Nat.le_of_ble_eq_true rfl) rfl rfl (fun _ => rfl) (by decide) (fun g_2 e_2 => ?_)
  refine o_aload_n dX2_parse_5 rfl ?_
  refine o_iconst dX2_parse_6 ?_
  refine o_pmE dX2_parse_7 fp_X2_29 rfl (by decide) (Nat.le_of_ble_eq_true rfl) rfl rfl (fun _ => rfl) (by decide) (fun g_7 e_7 => ?_)
  refine o_iconst dX2_parse_10 ?_
  refine o_istore_n dX2_parse_11 (by decide) ?_
  have hv0 : x_pv g_7 t n 0 := ⟨by rw [e_7, o_e_k (by decide), e_2, o_e_k (by decide)]; exact h1, fun j hj => by rw [e_7, o_e_n (by decide), e_2, o_e_n (by decide)]; exact h2 j hj, by rw [e_7, o_e_k (by decide), e_2, o_e_s]; rfl, Nat.zero_le _⟩
  exact o_loc [(0, .ref 163), (1, .int (o_I ((0 : Nat) : Int)))] rfl (key 0 (Nat.zero_le _) g_7 0 [] (x_pd_e (x_pd_e ⟨fun _ _ _ => rfl, fun _ _ _ => rfl⟩ e_2 (Or.inr rfl)) e_7 (Or.inl rfl)) hv0 rfl (by rw [e_7, o_e_s]; rfl) (fun j c hj => by cases hj) rfl)
set_option maxRecDepth 100000 in
set_option maxHeartbeats 4000000 in
/-- clear() -/
theorem ct_X2_clear {l : Launch} (hl : l.stackTraces = false) (d : Nat) (g : Nat → Nat → Int) : o_Ct l yX2_clear wX2_clear (d + 1) o_no [.ref 163] o_N (o_mem g) 0 0 (o_mt none (fun g' => g' = o_e g 163 2 0)) := by
  refine o_Ct.ofV hl mX2_clear (by decide +kernel) rfl rfl rfl (Nat.le_of_ble_eq_true rfl) ?_
  refine o_aload_n dX2_clear_0 rfl ?_
  refine o_iconst dX2_clear_1 ?_
  refine o_pmE dX2_clear_2 fp_X2_22 rfl (by decide) (Nat.le_of_ble_eq_true rfl) rfl rfl (fun _ => rfl) (by decide) (fun g_2 e_2 => ?_)
  refine o_ret0 dX2_clear_5 trivial ?_
  exact o_mt0 e_2
set_option maxRecDepth 100000 in
set_option maxHeartbeats 4000000 in
/-- append(c) -/
theorem ct_X2_append {l : Launch} (hl : l.stackTraces = false) (d : Nat) (g : Nat → Nat → Int) (n : Nat) (hn : n < 60) (h1 : g 163 2 = n) (c : Int) (hc : 0 ≤ c ∧ c < 65536) : o_Ct l yX2_append wX2_append (d + 1) o_no [.ref 163, .int (o_I c)] o_N (o_mem g) 0 0 (o_mt (some (.int (o_I ((n : Int) + 1)))) (fun g' => g' = o_e (o_e g 164 n c) 163 2 ((n : Int) + 1))) := by
  refine o_Ct.ofV hl mX2_append (by decide +kernel) rfl rfl rfl (Nat.le_of_ble_eq_true rfl) ?_
  refine o_aload_n dX2_append_0 rfl ?_
  refine o_gf dX2_append_1 fl_X2_22 rfl (by decide) rfl ?_
  refine o_bipush dX2_append_4 (by decide) ?_
  refine o_icmp_ge (tgt := 29) dX2_append_6 (by decide) ⟨by omega, by omega⟩ ⟨by omega, by omega⟩ (fun c_6 => ?_) (fun c_6 => ?_)
  · skip
    refine o_aload_n dX2_append_29 rfl ?_
    refine o_gf dX2_append_30 fl_X2_22 rfl (by decide) rfl ?_
    refine o_ret1 dX2_append_33 trivial ?_
    exfalso; omega
  · skip
    refine o_aload_n dX2_append_9 rfl ?_
    refine o_gf dX2_append_10 fl_X2_9 rfl (by decide) rfl ?_
    refine o_aload_n dX2_append_13 rfl ?_
    refine o_gf dX2_append_14 fl_X2_22 rfl (by decide) rfl ?_
    refine o_iload_n dX2_append_17 rfl ?_
    refine o_caEn (j := n) dX2_append_18 rfl (by decide) (by decide) (by first | rfl | omega) (by omega) (by omega) (by omega) (fun _ => rfl) (by decide) (fun g_18 e_18 => ?_)
    refine o_aload_n dX2_append_19 rfl ?_
    refine o_dup dX2_append_20 rfl ?_
    refine o_gf dX2_append_21 fl_X2_22 rfl (by decide) rfl ?_
    refine o_iconst dX2_append_24 ?_
    refine o_iadd dX2_append_25 ?_
    refine o_pmE dX2_append_26 fp_X2_22 rfl (by decide) (Nat.le_of_ble_eq_true rfl) rfl rfl (fun _ => rfl) (by decide) (fun g_26 e_26 => ?_)
    refine o_aload_n dX2_append_29 rfl ?_
    refine o_gf dX2_append_30 fl_X2_22 rfl (by decide) rfl ?_
    refine o_ret1 dX2_append_33 trivial ?_
    have z : g_26 = o_e (o_e g 164 n c) 163 2 ((n : Int) + 1) := by rw [e_26, e_18, o_e_n (by decide), h1]
    exact o_mtI (by rw [z, o_e_s]) z
