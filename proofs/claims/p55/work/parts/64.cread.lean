/-! the class reads a text -/
def x_pv (g : Nat → Nat → Int) (t : Nat → Int) (n p : Nat) : Prop := g 163 2 = n ∧ (∀ j, j < n → g 164 j = t j) ∧ g 163 4 = p ∧ p ≤ n
def x_pk (g g' : Nat → Nat → Int) : Prop := (∀ a, a ≠ 163 → g' a = g a) ∧ ∀ j, j ≠ 4 → g' 163 j = g 163 j
theorem x_pk_r {g : Nat → Nat → Int} : x_pk g g := ⟨fun _ _ => rfl, fun _ _ => rfl⟩
theorem x_pk_t {g g1 g2 : Nat → Nat → Int} (h1 : x_pk g g1) (h2 : x_pk g1 g2) : x_pk g g2 := ⟨fun a h => (h2.1 a h).trans (h1.1 a h), fun j a => (h2.2 j a).trans (h1.2 j a)⟩
theorem x_pk_e {g g1 g2 : Nat → Nat → Int} {z : Int} (h1 : x_pk g g1) (e : g2 = o_e g1 163 4 z) : x_pk g g2 := x_pk_t h1 ⟨fun a h => by rw [e, o_e_n h], fun i a => by rw [e, o_e_k a]⟩
theorem x_pv_4 {g g2 : Nat → Nat → Int} {t : Nat → Int} {n p q : Nat} {z : Int} (h : x_pv g t n p) (e : g2 = o_e g 163 4 z) (hz : z = (q : Nat)) (hq : q ≤ n) : x_pv g2 t n q := by
  rw [e]
  exact ⟨by rw [o_e_k (by decide)]; exact h.1, fun j hj => by rw [o_e_n (by decide)]; exact h.2.1 j hj, by rw [o_e_s]; exact hz, hq⟩
set_option maxRecDepth 100000 in
set_option maxHeartbeats 4000000 in
/-- isAt(c) -/
theorem ct_X2_isAt {l : Launch} (hl : l.stackTraces = false) (d : Nat) (g : Nat → Nat → Int) (t : Nat → Int) (n p : Nat) (hn : n ≤ 60) (ht : ∀ j, j < n → 0 ≤ t j ∧ t j < 65536) (hv : x_pv g t n p) (c : Int) (hc : 0 ≤ c ∧ c < 65536) : o_Ct l yX2_isAt wX2_isAt (d + 1) o_no [.ref 163, .int (o_I c)] o_N (o_mem g) 0 0 (o_is (some (.int (o_I (o_b (p_tx t n p = c))))) o_N (o_mem g)) := by
  refine o_Ct.ofV hl mX2_isAt (by decide +kernel) rfl rfl rfl (Nat.le_of_ble_eq_true rfl) ?_
  obtain ⟨h1, h2, h3, h5⟩ := id hv
  refine o_aload_n dX2_isAt_0 rfl ?_
  refine o_gf dX2_isAt_1 fl_X2_26 rfl (by decide) rfl ?_
  refine o_aload_n dX2_isAt_4 rfl ?_
  refine o_gf dX2_isAt_5 fl_X2_22 rfl (by decide) rfl ?_
  refine o_icmp_ge (tgt := 28) dX2_isAt_8 (by decide) ⟨by omega, by omega⟩ ⟨by omega, by omega⟩ (fun c_8 => ?_) (fun c_8 => ?_)
  · skip
    refine o_iconst dX2_isAt_28 ?_
    refine o_ret1 dX2_isAt_29 (by first | exact o_rb0 | exact o_rb1 | exact o_bn _) ?_
    exact o_isB (o_b0 (fun z => by rw [p_tx_ge (by omega)] at z; omega))
  · skip
    have hp : p < n := by omega
    have htp := ht p hp
    have hgp := h2 p hp
    refine o_aload_n dX2_isAt_11 rfl ?_
    refine o_gf dX2_isAt_12 fl_X2_9 rfl (by decide) rfl ?_
    refine o_aload_n dX2_isAt_15 rfl ?_
    refine o_gf dX2_isAt_16 fl_X2_26 rfl (by decide) rfl ?_
    refine o_caldn (j := p) dX2_isAt_19 (by decide) rfl (by decide) (by omega) (by omega) ?_
    refine o_iload_n dX2_isAt_20 rfl ?_
    refine o_icmp_ne (tgt := 28) dX2_isAt_21 (by decide) ⟨by omega, by omega⟩ ⟨by omega, by omega⟩ (fun c_21 => ?_) (fun c_21 => ?_)
    · skip
      refine o_iconst dX2_isAt_28 ?_
      refine o_ret1 dX2_isAt_29 (by first | exact o_rb0 | exact o_rb1 | exact o_bn _) ?_
      exact o_isB (o_b0 (fun z => by rw [p_tx_lt hp] at z; omega))
    · skip
      refine o_iconst dX2_isAt_24 ?_
      refine o_goto (tgt := 29) dX2_isAt_25 (by decide) ?_
      refine o_ret1 dX2_isAt_29 (by first | exact o_rb0 | exact o_rb1 | exact o_bn _) ?_
      exact o_isB (o_b1 (by rw [p_tx_lt hp]; omega))
set_option maxRecDepth 100000 in
set_option maxHeartbeats 4000000 in
/-- isAtDigit() -/
theorem ct_X2_isAtDigit {l : Launch} (hl : l.stackTraces = false) (d : Nat) (g : Nat → Nat → Int) (t : Nat → Int) (n p : Nat) (hn : n ≤ 60) (ht : ∀ j, j < n → 0 ≤ t j ∧ t j < 65536) (hv : x_pv g t n p) : o_Ct l yX2_isAtDigit wX2_isAtDigit (d + 1) o_no [.ref 163] o_N (o_mem g) 0 0 (o_is (some (.int (o_I (o_b (p_dg (p_tx t n p)))))) o_N (o_mem g)) := by
  refine o_Ct.ofV hl mX2_isAtDigit (by decide +kernel) rfl rfl rfl (Nat.le_of_ble_eq_true rfl) ?_
  obtain ⟨h1, h2, h3, h5⟩ := id hv
  refine o_aload_n dX2_isAtDigit_0 rfl ?_
  refine o_gf dX2_isAtDigit_1 fl_X2_26 rfl (by decide) rfl ?_
  refine o_aload_n dX2_isAtDigit_4 rfl ?_
  refine o_gf dX2_isAtDigit_5 fl_X2_22 rfl (by decide) rfl ?_
  refine o_icmp_ge (tgt := 43) dX2_isAtDigit_8 (by decide) ⟨by omega, by omega⟩ ⟨by omega, by omega⟩ (fun c_8 => ?_) (fun c_8 => ?_)
  · skip
    refine o_iconst dX2_isAtDigit_43 ?_
    refine o_ret1 dX2_isAtDigit_44 (by first | exact o_rb0 | exact o_rb1 | exact o_bn _) ?_
    exact o_isB (o_b0 (fun z => by rw [p_tx_ge (by omega)] at z; omega))
  · skip
    have hp : p < n := by omega
    have htp := ht p hp
    have hgp := h2 p hp
    refine o_aload_n dX2_isAtDigit_11 rfl ?_
    refine o_gf dX2_isAtDigit_12 fl_X2_9 rfl (by decide) rfl ?_
    refine o_aload_n dX2_isAtDigit_15 rfl ?_
    refine o_gf dX2_isAtDigit_16 fl_X2_26 rfl (by decide) rfl ?_
    refine o_caldn (j := p) dX2_isAtDigit_19 (by decide) rfl (by decide) (by omega) (by omega) ?_
    refine o_bipush dX2_isAtDigit_20 (by decide) ?_
    refine o_icmp_lt (tgt := 43) dX2_isAtDigit_22 (by decide) ⟨by omega, by omega⟩ ⟨by omega, by omega⟩ (fun c_22 => ?_) (fun c_22 => ?_)
    · skip
      refine o_iconst dX2_isAtDigit_43 ?_
      refine o_ret1 dX2_isAtDigit_44 (by first | exact o_rb0 | exact o_rb1 | exact o_bn _) ?_
      exact o_isB (o_b0 (fun z => by rw [p_tx_lt hp] at z; omega))
    · skip
      refine o_aload_n dX2_isAtDigit_25 rfl ?_
      refine o_gf dX2_isAtDigit_26 fl_X2_9 rfl (by decide) rfl ?_
      refine o_aload_n dX2_isAtDigit_29 rfl ?_
      refine o_gf dX2_isAtDigit_30 fl_X2_26 rfl (by decide) rfl ?_
      refine o_caldn (j := p) dX2_isAtDigit_33 (by decide) rfl (by decide) (by omega) (by omega) ?_
      refine o_bipush dX2_isAtDigit_34 (by decide) ?_
      refine o_icmp_gt (tgt := 43) dX2_isAtDigit_36 (by decide) ⟨by omega, by omega⟩ ⟨by omega, by omega⟩ (fun c_36 => ?_) (fun c_36 => ?_)
      · skip
        refine o_iconst dX2_isAtDigit_43 ?_
        refine o_ret1 dX2_isAtDigit_44 (by first | exact o_rb0 | exact o_rb1 | exact o_bn _) ?_
        exact o_isB (o_b0 (fun z => by rw [p_tx_lt hp] at z; omega))
      · skip
        refine o_iconst dX2_isAtDigit_39 ?_
        refine o_goto (tgt := 44) dX2_isAtDigit_40 (by decide) ?_
        refine o_ret1 dX2_isAtDigit_44 (by first | exact o_rb0 | exact o_rb1 | exact o_bn _) ?_
        exact o_isB (o_b1 (by rw [p_tx_lt hp]; omega))
set_option maxRecDepth 100000 in
set_option maxHeartbeats 4000000 in
/-- commonLetters(w) -/
theorem ct_X2_commonLetters {l : Launch} (hl : l.stackTraces = false) (d : Nat) (g : Nat → Nat → Int) (t : Nat → Int) (n p : Nat) (hn : n ≤ 60) (ht : ∀ j, j < n → 0 ≤ t j ∧ t j < 65536) (hv : x_pv g t n p) (num : Nat) (w : List Int) (hq : o_wt num w) : o_Ct l yX2_commonLetters wX2_commonLetters (d + 6) o_no [.ref 163, .ref (2000000 + num)] o_N (o_mem g) 0 0 (o_is (some (.int (o_I ((p_cl t n w p : Nat) : Int)))) o_N (o_mem g)) := by
  refine o_Ct.ofV hl mX2_commonLetters (by decide +kernel) rfl rfl rfl (Nat.le_of_ble_eq_true rfl) ?_
  obtain ⟨h1, h2, h3, h5⟩ := id hv
  have hw9 := hq.2.2
  have hle := p_cl_le t n w p
  have key := o_lp (fun k => k ≤ p_cl t n w p → o_V l mX2_commonLetters (d + 6) o_no (o_is (some (.int (o_I ((p_cl t n w p : Nat) : Int)))) o_N (o_mem g)) 2 [(0, .ref 163), (1, .ref (2000000 + num)), (2, .int (o_I (k : Int)))] [] o_N (o_mem g) 0 0) w.length (fun k hk ih hkc => by
    refine o_iload_n dX2_commonLetters_2 rfl ?_
    refine o_aload_n dX2_commonLetters_3 rfl ?_
    refine o_cG RJ0 _ (ct_J0_length_8abf5 hl d o_N (o_mem g) num w hq) dX2_commonLetters_4 ml_X2_62 yw_J0_length_8abf5 rfl (by decide) (by omega) (o_recC (fun Z ad s E => (z_sv hq Z ad s E).1)) rfl (Nat.le_of_ble_eq_true rfl) ?_
    refine o_icmp_ge (tgt := 48) dX2_commonLetters_7 (by decide) ⟨by omega, by omega⟩ ⟨by omega, by omega⟩ (fun c_7 => ?_) (fun c_7 => ?_)
    · skip
      refine o_iload_n dX2_commonLetters_48 rfl ?_
      refine o_ret1 dX2_commonLetters_49 trivial ?_
      exact ⟨by rw [show p_cl t n w p = k by omega], rfl, rfl⟩
    · skip
      have hkw : k < w.length := by omega
      have hat := p_cl_at t n w p k hkw hkc
      have hcx := hq.2.1 _ (o_getD_mem (w := w) hkw)
      refine o_aload_n dX2_commonLetters_10 rfl ?_
      refine o_gf dX2_commonLetters_11 fl_X2_26 rfl (by decide) rfl ?_
      refine o_iload_n dX2_commonLetters_14 rfl ?_
      refine o_iadd dX2_commonLetters_15 ?_
      refine o_aload_n dX2_commonLetters_16 rfl ?_
      refine o_gf dX2_commonLetters_17 fl_X2_22 rfl (by decide) rfl ?_
      refine o_icmp_ge (tgt := 48) dX2_commonLetters_20 (by decide) ⟨by omega, by omega⟩ ⟨by omega, by omega⟩ (fun c_20 => ?_) (fun c_20 => ?_)
      · skip
        refine o_iload_n dX2_commonLetters_48 rfl ?_
        refine o_ret1 dX2_commonLetters_49 trivial ?_
        have hck : p_cl t n w p = k := by
          rcases Nat.lt_or_ge k (p_cl t n w p) with q | q
          · exfalso
            have := hat.mpr q
            rw [p_tx_ge (by omega)] at this
            omega
          · omega
        exact ⟨by rw [hck], rfl, rfl⟩
      · skip
        have hp : p + k < n := by omega
        have htp := ht (p + k) hp
        have hgp := h2 (p + k) hp
        rw [p_tx_lt hp] at hat
        refine o_aload_n dX2_commonLetters_23 rfl ?_
        refine o_gf dX2_commonLetters_24 fl_X2_9 rfl (by decide) rfl ?_
        refine o_aload_n dX2_commonLetters_27 rfl ?_
        refine o_gf dX2_commonLetters_28 fl_X2_26 rfl (by decide) rfl ?_
        refine o_iload_n dX2_commonLetters_31 rfl ?_
        refine o_iadd dX2_commonLetters_32 ?_
        refine o_caldn (j := (p + k)) dX2_commonLetters_33 (by decide) rfl (by decide) (by omega) (by omega) ?_
        refine o_aload_n dX2_commonLetters_34 rfl ?_
        refine o_iload_n dX2_commonLetters_35 rfl ?_
        refine o_cG RJ0 _ (ct_J0_charAt_5068e hl d o_N (o_mem g) num w hq (k : Int) (by omega)) dX2_commonLetters_36 ml_X2_67 yw_J0_charAt_5068e rfl (by decide) (by omega) (o_recC (fun Z ad s E => (z_sv hq Z ad s E).1)) rfl (Nat.le_of_ble_eq_true rfl) ?_
        simp only [Int.toNat_natCast]
        refine o_icmp_ne (tgt := 48) dX2_commonLetters_39 (by decide) ⟨by omega, by omega⟩ ⟨by omega, by omega⟩ (fun c_39 => ?_) (fun c_39 => ?_)
        · skip
          refine o_iload_n dX2_commonLetters_48 rfl ?_
          refine o_ret1 dX2_commonLetters_49 trivial ?_
          have hck : p_cl t n w p = k := by
            rcases Nat.lt_or_ge k (p_cl t n w p) with q | q
            · exfalso
              have := hat.mpr q
              omega
            · omega
          exact ⟨by rw [hck], rfl, rfl⟩
        · skip
          refine o_iinc dX2_commonLetters_42 rfl (by decide) ?_
          refine o_goto (tgt := 2) dX2_commonLetters_45 (by decide) ?_
          exact o_loc [(0, .ref 163), (1, .ref (2000000 + num)), (2, .int (o_I ((k + 1 : Nat) : Int)))] rfl (ih (by omega) (hat.mp (by omega))))
  refine o_iconst dX2_commonLetters_0 ?_
  refine o_istore_n dX2_commonLetters_1 (by decide) ?_
  exact o_loc [(0, .ref 163), (1, .ref (2000000 + num)), (2, .int (o_I ((0 : Nat) : Int)))] rfl (key 0 (Nat.zero_le _) (Nat.zero_le _))
def p_wt (i : Nat) : List Int := (p_wd i).map (fun m : Nat => 48 + (m : Int))
theorem o_kwA : ∀ i, i < 7 → ∃ q, o_kw[i]? = some q ∧ o_wt q.2.1 (p_W i) ∧ o_wt q.2.2.1 (p_wt i) ∧ q.2.2.2 = o_I (o_b (i = 6)) := by
  intro i hi
  rcases (by omega : i = 0 ∨ i = 1 ∨ i = 2 ∨ i = 3 ∨ i = 4 ∨ i = 5 ∨ i = 6) with rfl | rfl | rfl | rfl | rfl | rfl | rfl <;> exact ⟨_, rfl, ⟨by decide, by decide, by decide⟩, ⟨by decide, by decide, by decide⟩, by decide⟩
set_option maxRecDepth 100000 in
set_option maxHeartbeats 4000000 in
/-- readKeyword() -/
theorem ct_X2_readKeyword {l : Launch} (hl : l.stackTraces = false) (d : Nat) (g : Nat → Nat → Int) (t : Nat → Int) (n p : Nat) (hn : n ≤ 60) (ht : ∀ j, j < n → 0 ≤ t j ∧ t j < 65536) (hv : x_pv g t n p) : o_Ct l yX2_readKeyword wX2_readKeyword (d + 7) o_no [.ref 163] o_N (o_mem g) 0 0 (o_mt (some (if p_cl t n (p_W (p_sel t n p)) p = (p_W (p_sel t n p)).length then .ref (1000000 + p_sel t n p) else .null)) (fun g' => x_pv g' t n (p_we t n p) ∧ x_pk g g')) := by
  refine o_Ct.ofV hl mX2_readKeyword (by decide +kernel) rfl rfl rfl (Nat.le_of_ble_eq_true rfl) ?_
  obtain ⟨h1, h2, h3, h5⟩ := id hv
  have hsl := p_sel_lt t n p
  have hwi := p_we_in (t := t) h5
  have hle := p_cl_le t n (p_W (p_sel t n p)) p
  have hl5 : (p_W (p_sel t n p)).length ≤ 5 := by
    rcases (by omega : p_sel t n p = 0 ∨ p_sel t n p = 1 ∨ p_sel t n p = 2 ∨ p_sel t n p = 3 ∨ p_sel t n p = 4 ∨ p_sel t n p = 5 ∨ p_sel t n p = 6) with q | q | q | q | q | q | q <;> rw [q] <;> decide
  have hwe : (p_we t n p : Int) = p + p_cl t n (p_W (p_sel t n p)) p := by unfold p_we; omega
  have key := o_lp (fun i => ∀ A : Int, 0 ≤ A → A ≤ p_cl t n (p_W (p_sel t n p)) p → (p_sel t n p < i → A = p_cl t n (p_W (p_sel t n p)) p ∧ p_cl t n (p_W (p_sel t n p)) p < (p_W (p_sel t n p)).length) → o_V l mX2_readKeyword (d + 7) o_no (o_mt (some (if p_cl t n (p_W (p_sel t n p)) p = (p_W (p_sel t n p)).length then .ref (1000000 + p_sel t n p) else .null)) (fun g' => x_pv g' t n (p_we t n p) ∧ x_pk g g')) 4 [(0, .ref 163), (1, .int (o_I A)), (2, .int (o_I (i : Int)))] [] o_N (o_mem g) 0 0) 7 (fun i hi ih A hA0 hA1 hA2 => by
    refine o_iload_n dX2_readKeyword_4 rfl ?_
    refine o_gsK rfl dX2_readKeyword_5 ?_
    refine o_tlK dX2_readKeyword_8 ?_
    refine o_icmp_ge (tgt := 67) dX2_readKeyword_9 (by decide) ⟨by omega, by omega⟩ ⟨by omega, by omega⟩ (fun c_9 => ?_) (fun c_9 => ?_)
    · skip
      refine o_aload_n dX2_readKeyword_67 rfl ?_
      refine o_dup dX2_readKeyword_68 rfl ?_
      refine o_gf dX2_readKeyword_69 fl_X2_26 rfl (by decide) rfl ?_
      refine o_iload_n dX2_readKeyword_72 rfl ?_
      refine o_iadd dX2_readKeyword_73 ?_
      refine o_pmE dX2_readKeyword_74 fp_X2_26 rfl (by decide) (Nat.le_of_ble_eq_true rfl) rfl rfl (fun _ => rfl) (by decide) (fun g_74 e_74 => ?_)
      refine o_null dX2_readKeyword_77 ?_
      refine o_ret1 dX2_readKeyword_78 (Or.inl rfl) ?_
      have h9 := hA2 (by omega)
      rw [if_neg (by omega)]
      exact ⟨rfl, rfl, _, rfl, x_pv_4 hv e_74 (by omega) hwi.2, x_pk_e x_pk_r e_74⟩
    · skip
      have hi7 : i < 7 := by omega
      obtain ⟨q, hq0, hq1, hq2, hq3⟩ := o_kwA i hi7
      have hcl := p_cl_le t n (p_W i) p
      have hw9 := hq1.2.2
      refine o_gsK rfl dX2_readKeyword_12 ?_
      refine o_iload_n dX2_readKeyword_15 rfl ?_
      refine o_tqK dX2_readKeyword_16 rfl (by omega) ?_
      refine o_gfC (v := .ref (2000000 + q.2.1)) (o := RX6) (n9 := "word") (d9 := "Ljava/lang/String;") dX2_readKeyword_17 (o_gT (i := 1594) (by decide +kernel) rfl) (fun Z ad s E => (z_kw hq0 Z ad s E).2.2.2.1) ?_
      refine o_astore_n dX2_readKeyword_20 (by decide) ?_
      refine o_aload_n dX2_readKeyword_21 rfl ?_
      refine o_aload_n dX2_readKeyword_22 rfl ?_
      refine o_cV _ (ct_X2_commonLetters hl d g t n p hn ht hv q.2.1 (p_W i) hq1) dX2_readKeyword_23 ml_X2_82 yw_X2_commonLetters rfl (by decide) (by omega) (by decide) rfl rfl rfl (Nat.le_of_ble_eq_true rfl) ?_
      refine o_istore dX2_readKeyword_26 (by decide) ?_
      refine o_iload dX2_readKeyword_28 rfl ?_
      refine o_aload_n dX2_readKeyword_30 rfl ?_
      refine o_cG RJ0 _ (ct_J0_length_8abf5 hl (d + 1) o_N (o_mem g) q.2.1 (p_W i) hq1) dX2_readKeyword_31 ml_X2_62 yw_J0_length_8abf5 rfl (by decide) (by omega) (o_recC (fun Z ad s E => (z_sv hq1 Z ad s E).1)) rfl (Nat.le_of_ble_eq_true rfl) ?_
      refine o_icmp_ne (tgt := 54) dX2_readKeyword_34 (by decide) ⟨by omega, by omega⟩ ⟨by omega, by omega⟩ (fun c_34 => ?_) (fun c_34 => ?_)
      · skip
        refine o_iload_n dX2_readKeyword_54 rfl ?_
        refine o_iload dX2_readKeyword_55 rfl ?_
        refine o_mmax dX2_readKeyword_57 ml_X2_86 o_maxS.1 o_maxS.2.1 o_maxS.2.2 ⟨by omega, by omega⟩ ⟨by omega, by omega⟩ (Nat.le_of_ble_eq_true rfl) ?_
        refine o_istore_n dX2_readKeyword_60 (by decide) ?_
        refine o_iinc dX2_readKeyword_61 rfl (by decide) ?_
        refine o_goto (tgt := 4) dX2_readKeyword_64 (by decide) ?_
        by_cases his : i = p_sel t n p
        · exact o_loc [(0, .ref 163), (1, .int (o_I (max A (p_cl t n (p_W i) p : Nat)))), (2, .int (o_I ((i + 1 : Nat) : Int)))] rfl (ih (by omega) _ (by omega) (by rw [his]; omega) (fun _ => ⟨by rw [his]; omega, by rw [← his]; omega⟩))
        · have hk := p_kw i hi7 his
          exact o_loc [(0, .ref 163), (1, .int (o_I (max A (p_cl t n (p_W i) p : Nat)))), (2, .int (o_I ((i + 1 : Nat) : Int)))] rfl (ih (by omega) _ (by omega) (by omega) (fun z => ⟨by have := hA2 (by omega); omega, (hA2 (by omega)).2⟩))
      · skip
        refine o_aload_n dX2_readKeyword_37 rfl ?_
        refine o_dup dX2_readKeyword_38 rfl ?_
        refine o_gf dX2_readKeyword_39 fl_X2_26 rfl (by decide) rfl ?_
        refine o_iload dX2_readKeyword_42 rfl ?_
        refine o_iadd dX2_readKeyword_44 ?_
        refine o_pmE dX2_readKeyword_45 fp_X2_26 rfl (by decide) (Nat.le_of_ble_eq_true rfl) rfl rfl (fun _ => rfl) (by decide) (fun g_45 e_45 => ?_)
        refine o_gsK rfl dX2_readKeyword_48 ?_
        refine o_iload_n dX2_readKeyword_51 rfl ?_
        refine o_tqK dX2_readKeyword_52 rfl (by omega) ?_
        refine o_ret1 dX2_readKeyword_53 (Or.inr ⟨_, rfl⟩) ?_
        have his : i = p_sel t n p := by
          rcases Nat.lt_or_ge (p_cl t n (p_W i) p) (p_W i).length with z | z
          · omega
          · by_cases q : i = p_sel t n p
            · exact q
            · have := (p_kw i hi7 q).2
              omega
        subst his
        rw [if_pos (by omega)]
        exact ⟨rfl, rfl, _, rfl, x_pv_4 hv e_45 (by omega) hwi.2, x_pk_e x_pk_r e_45⟩)
  refine o_iconst dX2_readKeyword_0 ?_
  refine o_istore_n dX2_readKeyword_1 (by decide) ?_
  refine o_iconst dX2_readKeyword_2 ?_
  refine o_istore_n dX2_readKeyword_3 (by decide) ?_
  exact o_loc [(0, .ref 163), (1, .int (o_I 0)), (2, .int (o_I ((0 : Nat) : Int)))] rfl (key 0 (Nat.zero_le _) 0 (Int.le_refl 0) (by omega) (fun z => absurd z (Nat.not_lt_zero _)))
set_option maxRecDepth 100000 in
set_option maxHeartbeats 4000000 in
/-- readBlankAndNumber(m) -/
theorem ct_X2_readBlankAndNumber {l : Launch} (hl : l.stackTraces = false) (d : Nat) (g : Nat → Nat → Int) (t : Nat → Int) (n p : Nat) (hn : n ≤ 60) (ht : ∀ j, j < n → 0 ≤ t j ∧ t j < 65536) (hv : x_pv g t n p) (m : Nat) (hm : 1 ≤ m ∧ m ≤ 3) : o_Ct l yX2_readBlankAndNumber wX2_readBlankAndNumber (d + 2) o_no [.ref 163, .int (o_I (m : Int))] o_N (o_mem g) 0 0 (o_mt (some (.int (o_I (if (p_num t n m p).1 = true then (p_num t n m p).2.2 else -1)))) (fun g' => x_pv g' t n (p_num t n m p).2.1 ∧ x_pk g g')) := by
  refine o_Ct.ofV hl mX2_readBlankAndNumber (by decide +kernel) rfl rfl rfl (Nat.le_of_ble_eq_true rfl) ?_
  obtain ⟨h1, h2, h3, h5⟩ := id hv
  have hp10 : ∀ k : Nat, k ≤ 3 → (10 : Int) ^ k ≤ 1000 := fun k hk => by
    rcases (by omega : k = 0 ∨ k = 1 ∨ k = 2 ∨ k = 3) with rfl | rfl | rfl | rfl <;> decide
  have key := o_lp (fun k => ∀ g1 (A : Int) (q : Nat), x_pk g g1 → x_pv g1 t n q → 0 ≤ A → A + 1 ≤ 10 ^ k → p_num t n m p = (true, p_ds t n (m - k) q A) → o_V l mX2_readBlankAndNumber (d + 2) o_no (o_mt (some (.int (o_I (if (p_num t n m p).1 = true then (p_num t n m p).2.2 else -1)))) (fun g' => x_pv g' t n (p_num t n m p).2.1 ∧ x_pk g g')) 34 [(0, .ref 163), (1, .int (o_I (m : Int))), (2, .int (o_I A)), (3, .int (o_I (k : Int)))] [] o_N (o_mem g1) 0 0) m (fun k hk ih g1 A q f1 hv1 hA0 hA1 hF => by
    obtain ⟨h1, h2, h3, h5⟩ := id hv1
    have hp := hp10 k (by omega)
    refine o_iload_n dX2_readBlankAndNumber_34 rfl ?_
    refine o_iload_n dX2_readBlankAndNumber_35 rfl ?_
    refine o_icmp_ge (tgt := 80) dX2_readBlankAndNumber_36 (by decide) ⟨by omega, by omega⟩ ⟨by omega, by omega⟩ (fun c_36 => ?_) (fun c_36 => ?_)
    · skip
      refine o_iload_n dX2_readBlankAndNumber_80 rfl ?_
      refine o_ret1 dX2_readBlankAndNumber_81 trivial ?_
      have hmk : m - k = 0 := by omega
      rw [hmk] at hF
      rw [hF]
      exact o_mtI rfl ⟨hv1, f1⟩
    · skip
      refine o_aload_n dX2_readBlankAndNumber_39 rfl ?_
      refine o_cV _ (ct_X2_isAtDigit hl d g1 t n q hn ht hv1) dX2_readBlankAndNumber_40 ml_X2_92 yw_X2_isAtDigit rfl (by decide) (by omega) (by decide) rfl rfl rfl (Nat.le_of_ble_eq_true rfl) ?_
      refine o_ifb_eq (tgt := 80) dX2_readBlankAndNumber_43 (by decide) (fun c_43 => ?_) (fun c_43 => ?_)
      · skip
        refine o_iload_n dX2_readBlankAndNumber_80 rfl ?_
        refine o_ret1 dX2_readBlankAndNumber_81 trivial ?_
        obtain ⟨m1, hm1⟩ : ∃ m1, m - k = m1 + 1 := ⟨m - k - 1, by omega⟩
        rw [hm1] at hF
        rw [hF]
        have e9 : p_ds t n (m1 + 1) q A = (q, A) := if_neg c_43
        rw [e9]
        exact o_mtI rfl ⟨hv1, f1⟩
      · skip
        obtain ⟨m1, hm1⟩ : ∃ m1, m - k = m1 + 1 := ⟨m - k - 1, by omega⟩
        have hq9 : q < n := p_tx_in (t := t) (by have := c_43; omega)
        have hF2 : p_num t n m p = (true, p_ds t n m1 (q + 1) (A * 10 + (p_tx t n q - 48))) := by
          rw [hF, hm1]
          show (true, (if p_dg (p_tx t n q) then _ else _ : Nat × Int)) = _
          rw [if_pos c_43]
        have hdg := c_43
        rw [p_tx_lt hq9] at hF2 hdg
        have htq := h2 q hq9
        refine o_iload_n dX2_readBlankAndNumber_46 rfl ?_
        refine o_bipush dX2_readBlankAndNumber_47 (by decide) ?_
        refine o_imul dX2_readBlankAndNumber_49 ?_
        refine o_aload_n dX2_readBlankAndNumber_50 rfl ?_
        refine o_gf dX2_readBlankAndNumber_51 fl_X2_9 rfl (by decide) rfl ?_
        refine o_aload_n dX2_readBlankAndNumber_54 rfl ?_
        refine o_gf dX2_readBlankAndNumber_55 fl_X2_26 rfl (by decide) rfl ?_
        refine o_caldn (j := q) dX2_readBlankAndNumber_58 (by decide) rfl (by decide) (by omega) (by omega) ?_
        refine o_bipush dX2_readBlankAndNumber_59 (by decide) ?_
        refine o_isub dX2_readBlankAndNumber_61 ?_
        refine o_iadd dX2_readBlankAndNumber_62 ?_
        refine o_istore_n dX2_readBlankAndNumber_63 (by decide) ?_
        refine o_aload_n dX2_readBlankAndNumber_64 rfl ?_
        refine o_dup dX2_readBlankAndNumber_65 rfl ?_
        refine o_gf dX2_readBlankAndNumber_66 fl_X2_26 rfl (by decide) rfl ?_
        refine o_iconst dX2_readBlankAndNumber_69 ?_
        refine o_iadd dX2_readBlankAndNumber_70 ?_
        refine o_pmE dX2_readBlankAndNumber_71 fp_X2_26 rfl (by decide) (Nat.le_of_ble_eq_true rfl) rfl rfl (fun _ => rfl) (by decide) (fun g_71 e_71 => ?_)
        refine o_iinc dX2_readBlankAndNumber_74 rfl (by decide) ?_
        refine o_goto (tgt := 34) dX2_readBlankAndNumber_77 (by decide) ?_
        exact o_loc [(0, .ref 163), (1, .int (o_I (m : Int))), (2, .int (o_I (A * 10 + (t q - 48)))), (3, .int (o_I ((k + 1 : Nat) : Int)))] (by rw [show (A * 10 + (g1 164 q - 48) : Int) = A * 10 + (t q - 48) by omega]; rfl) (ih (by omega) g_71 _ (q + 1) (x_pk_e f1 e_71) (x_pv_4 hv1 e_71 (by omega) (by omega)) (by omega) (by rw [Int.pow_succ]; omega) (by rw [hF2, show m - (k + 1) = m1 by omega])))
  refine o_aload_n dX2_readBlankAndNumber_0 rfl ?_
  refine o_bipush dX2_readBlankAndNumber_1 (by decide) ?_
  refine o_cV _ (ct_X2_isAt hl (d + 0) g t n p hn ht hv 32 (by decide)) dX2_readBlankAndNumber_3 ml_X2_36 yw_X2_isAt rfl (by decide) (by omega) (by decide) rfl rfl rfl (Nat.le_of_ble_eq_true rfl) ?_
  refine o_ifb_ne (tgt := 11) dX2_readBlankAndNumber_6 (by decide) (fun c_6 => ?_) (fun c_6 => ?_)
  · skip
    refine o_aload_n dX2_readBlankAndNumber_11 rfl ?_
    refine o_dup dX2_readBlankAndNumber_12 rfl ?_
    refine o_gf dX2_readBlankAndNumber_13 fl_X2_26 rfl (by decide) rfl ?_
    refine o_iconst dX2_readBlankAndNumber_16 ?_
    refine o_iadd dX2_readBlankAndNumber_17 ?_
    refine o_pmE dX2_readBlankAndNumber_18 fp_X2_26 rfl (by decide) (Nat.le_of_ble_eq_true rfl) rfl rfl (fun _ => rfl) (by decide) (fun g_18 e_18 => ?_)
    have hp : p < n := p_tx_in (t := t) (by omega)
    have hv18 := x_pv_4 (q := p + 1) hv e_18 (by omega) (by omega)
    refine o_aload_n dX2_readBlankAndNumber_21 rfl ?_
    refine o_cV _ (ct_X2_isAtDigit hl d g_18 t n (p + 1) hn ht hv18) dX2_readBlankAndNumber_22 ml_X2_92 yw_X2_isAtDigit rfl (by decide) (by omega) (by decide) rfl rfl rfl (Nat.le_of_ble_eq_true rfl) ?_
    refine o_ifb_ne (tgt := 30) dX2_readBlankAndNumber_25 (by decide) (fun c_25 => ?_) (fun c_25 => ?_)
    · skip
      refine o_iconst dX2_readBlankAndNumber_30 ?_
      refine o_istore_n dX2_readBlankAndNumber_31 (by decide) ?_
      refine o_iconst dX2_readBlankAndNumber_32 ?_
      refine o_istore_n dX2_readBlankAndNumber_33 (by decide) ?_
      exact o_loc [(0, .ref 163), (1, .int (o_I (m : Int))), (2, .int (o_I 0)), (3, .int (o_I ((0 : Nat) : Int)))] rfl (key 0 (Nat.zero_le _) g_18 0 (p + 1) (x_pk_e x_pk_r e_18) hv18 (by decide) (by decide) (by unfold p_num; rw [if_pos c_6, if_pos c_25]; rfl))
    · skip
      refine o_iconst dX2_readBlankAndNumber_28 ?_
      refine o_ret1 dX2_readBlankAndNumber_29 trivial ?_
      have e9 : p_num t n m p = (false, p + 1, 0) := by unfold p_num; rw [if_pos c_6, if_neg c_25]
      rw [e9]
      exact o_mtI rfl ⟨hv18, x_pk_e x_pk_r e_18⟩
  · skip
    refine o_iconst dX2_readBlankAndNumber_9 ?_
    refine o_ret1 dX2_readBlankAndNumber_10 trivial ?_
    have e9 : p_num t n m p = (false, p, 0) := by unfold p_num; rw [if_neg c_6]
    rw [e9]
    exact o_mtI rfl ⟨hv, x_pk_r⟩
