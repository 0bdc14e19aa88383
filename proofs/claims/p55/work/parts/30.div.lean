/-! the division of the oil -/
def d_all (M : Nat → Nat → Int) : Int := o_sm (fun i => if 0 < M 5 i then M 4 i else 0) (M 0 1).toNat
def d_of (M : Nat → Nat → Int) (s : Int) : Int := o_sm (fun i => if M 5 i = s + 1 then M 4 i else 0) (M 0 1).toNat
def d_q (M : Nat → Nat → Int) (s : Nat) : Int := if 0 < d_all M then M 0 2 * d_of M s / d_all M else 0
def d_r (M : Nat → Nat → Int) (s : Nat) : Int := if 0 < d_all M then M 0 2 * d_of M s % d_all M else 0
def d_u (M : Nat → Nat → Int) : Nat → Int
  | 0 => if 0 < d_all M then M 0 2 else 0
  | n + 1 => d_u M n - d_q M n
abbrev d_ah (M : Nat → Nat → Int) (o s : Nat) : Prop := d_r M s < d_r M o ∨ (d_r M o = d_r M s ∧ o < s)
def d_rk (M : Nat → Nat → Int) (s : Nat) : Int := o_sm (fun o => o_b (d_ah M o s)) (M 0 0).toNat
theorem d_ord (M : Nat → Nat → Int) : o_ord (d_ah M) := ⟨fun i j k h1 h2 => by omega, fun i h => by omega, fun i j h => by omega⟩
theorem d_all_R {M : Nat → Nat → Int} (h : o_wl M) : 0 ≤ d_all M ∧ d_all M ≤ 24 := by
  have := o_sm_le (f := fun i => if 0 < M 5 i then M 4 i else 0) (n := (M 0 1).toNat) (m := 3) (fun i hi => by have u := (h.2.2.2.2 i (by omega)).1; split <;> omega)
  have h1 := h.1
  have h2 := h.2.1
  unfold d_all
  omega
theorem d_of_R {M : Nat → Nat → Int} (h : o_wl M) (s : Int) : 0 ≤ d_of M s ∧ d_of M s ≤ 24 := by
  have := o_sm_le (f := fun i => if M 5 i = s + 1 then M 4 i else 0) (n := (M 0 1).toNat) (m := 3) (fun i hi => by have u := (h.2.2.2.2 i (by omega)).1; split <;> omega)
  have h1 := h.1
  have h2 := h.2.1
  unfold d_of
  omega
theorem d_r_R {M : Nat → Nat → Int} (h : o_wk M) (s : Nat) : 0 ≤ d_r M s ∧ d_r M s ≤ 24 := by
  have h1 := d_all_R h.2.1
  unfold d_r
  split
  · rename_i c
    have a := Int.emod_nonneg (M 0 2 * d_of M s) (show d_all M ≠ 0 by omega)
    have b := Int.emod_lt_of_pos (M 0 2 * d_of M s) c
    omega
  · omega
theorem d_rkP (M : Nat → Nat → Int) (s : Nat) : d_rk M s = o_sm (fun o => o_b (True ∧ d_ah M o s)) (M 0 0).toNat := sm_eq (fun i _ => o_bc ⟨fun q => ⟨trivial, q⟩, fun q => q.2⟩)
theorem d_tr (n : Nat) : o_sm (fun _ => o_b True) n = n := by rw [show (fun _ : Nat => o_b True) = fun _ => 1 from funext fun _ => o_b1 trivial]; exact sm_const n
theorem d_rk_inj {M : Nat → Nat → Int} {i j : Nat} (hi : (i : Int) < M 0 0) (hj : (j : Int) < M 0 0) (h : d_rk M i = d_rk M j) : i = j := by
  rw [d_rkP, d_rkP] at h
  exact rk_inj (P := fun _ => True) (d_ord M) (by omega) (by omega) trivial trivial h
theorem d_rk_lt {M : Nat → Nat → Int} {i j : Nat} (hi : (i : Int) < M 0 0) (h : d_ah M i j) : d_rk M i < d_rk M j := by
  rw [d_rkP, d_rkP]
  exact rk_lt (P := fun _ => True) (d_ord M) (by omega) trivial h
theorem d_rk_top {M : Nat → Nat → Int} {j : Nat} (hj : (j : Int) < M 0 0) : 0 ≤ d_rk M j ∧ d_rk M j < M 0 0 := by
  rw [d_rkP]
  have a := rk_top (P := fun _ => True) (d_ord M) (n := (M 0 0).toNat) (j := j) (by omega) trivial
  have b := rk_R (P := fun _ => True) (R := d_ah M) (n := (M 0 0).toNat) (j := j)
  rw [d_tr] at a
  omega
theorem d_rk_ex {M : Nat → Nat → Int} {r : Int} (h0 : 0 ≤ r) (h1 : r < M 0 0) : ∃ j : Nat, (j : Int) < M 0 0 ∧ d_rk M j = r := by
  obtain ⟨j, a, -, c⟩ := rk_ex (P := fun _ => True) (d_ord M) (n := (M 0 0).toNat) h0 (by rw [d_tr]; omega)
  exact ⟨j, by omega, by rw [d_rkP]; exact c⟩
/-- the shares rounded down; the division after k units -/
def o_dv (g : Nat → Nat → Int) (M : Nat → Nat → Int) (k : Int) : Prop := g 159 3 = d_u M (M 0 0).toNat ∧ ∀ s : Nat, (s : Int) < M 0 0 → g 160 s = d_q M s + o_b (d_rk M s < k) ∧ g 161 s = d_r M s ∧ g 162 s = o_b (d_rk M s < k)
def o_dc : Nat → Prop := fun a => 159 ≤ a ∧ a ≤ 162
set_option maxRecDepth 100000 in
set_option maxHeartbeats 4000000 in
/-- divideRoundedDown(state) -/
theorem ct_X3_divideRoundedDown {l : Launch} (hl : l.stackTraces = false) (d : Nat) (g : Nat → Nat → Int) (M : Nat → Nat → Int) (hst : o_st g M) (hwk : o_wk M) : o_Ct l yX3_divideRoundedDown wX3_divideRoundedDown (d + 3) o_no [.ref 159, .ref 1] o_N (o_mem g) 0 0 (o_mt (none) (fun g' => o_dv g' M 0 ∧ o_fr o_dc g g')) := by
  refine o_Ct.ofV hl mX3_divideRoundedDown (by decide +kernel) rfl rfl rfl (Nat.le_of_ble_eq_true rfl) ?_
  obtain ⟨hrs, hrl, hrq, hg3, hg4, hg5, hg6⟩ := id hst
  obtain ⟨hws, hwl, hwq, hwo, hwle, hwrq, hwrd⟩ := id hwk
  have hs0 := hrs.1
  have hl0 := hrl.1
  have hq0 := hrq.1
  have hs1 := o_rs2 hrs
  have hl1 := o_rl6 hrl
  have hq1 := o_rq12 hrq
  obtain ⟨hw1, hw2, hw3⟩ := id hws
  obtain ⟨hw4, hw5, hw6, hw7, hw8⟩ := id hwl
  obtain ⟨hw9, hw10, hw11⟩ := id hwq
  have hall := d_all_R hwl
  have key := o_lp (fun i => ∀ g1, o_st g1 M → g1 159 3 = d_u M i → (∀ s, s < i → g1 160 s = d_q M s ∧ g1 161 s = d_r M s ∧ g1 162 s = 0) → o_fr o_dc g g1 → o_V l mX3_divideRoundedDown (d + 3) o_no (o_mt (none) (fun g' => o_dv g' M 0 ∧ o_fr o_dc g g')) 26 [(0, .ref 159), (1, .ref 1), (2, .int (o_I (d_all M))), (3, .int (o_I ((i : Nat) : Int)))] [] o_N (o_mem g1) 0 0) (M 0 0).toNat (fun i hi ih g1 h1 h2 h3 f1 => by
    obtain ⟨hrs, hrl, hrq, hg3, hg4, hg5, hg6⟩ := id h1
    obtain ⟨hws, hwl, hwq, hwo, hwle, hwrq, hwrd⟩ := id hwk
    have hs0 := hrs.1
    have hl0 := hrl.1
    have hq0 := hrq.1
    have hs1 := o_rs2 hrs
    have hl1 := o_rl6 hrl
    have hq1 := o_rq12 hrq
    obtain ⟨hw1, hw2, hw3⟩ := id hws
    obtain ⟨hw4, hw5, hw6, hw7, hw8⟩ := id hwl
    obtain ⟨hw9, hw10, hw11⟩ := id hwq
    refine o_iload_n dX3_divideRoundedDown_26 rfl ?_
    refine o_aload_n dX3_divideRoundedDown_27 rfl ?_
    refine o_gf dX3_divideRoundedDown_28 fl_X3_22 rfl (by decide) rfl ?_
    refine o_gf dX3_divideRoundedDown_31 fl_X3_42 rfl (by decide) rfl ?_
    refine o_icmp_ge (tgt := 116) dX3_divideRoundedDown_34 (by decide) ⟨by omega, by omega⟩ ⟨by omega, by omega⟩ (fun c_34 => ?_) (fun c_34 => ?_)
    · skip
      refine o_ret0 dX3_divideRoundedDown_116 trivial ?_
      refine o_mt0 ⟨⟨by rw [h2, show i = (M 0 0).toNat by omega], fun s hs => ?_⟩, f1⟩
      have t := h3 s (by omega)
      have u := d_rk_top (M := M) hs
      rw [o_b0 (by omega), Int.add_zero]
      exact t
    · skip
      have hi9 : (i : Int) < M 0 0 := by omega
      have hof := d_of_R hwl (i : Int)
      have hmul := o_mulR (a := M 0 2) (b := d_of M i) (m := 500) (k := 24) (by omega) (by omega) (by omega) (by omega)
      refine o_aload_n dX3_divideRoundedDown_37 rfl ?_
      refine o_gf dX3_divideRoundedDown_38 fl_X3_63 rfl (by decide) rfl ?_
      rw [hg3]
      refine o_aload_n dX3_divideRoundedDown_41 rfl ?_
      refine o_gf dX3_divideRoundedDown_42 fl_X3_53 rfl (by decide) rfl ?_
      refine o_iload_n dX3_divideRoundedDown_45 rfl ?_
      refine o_cV _ (ct_X7_demandOf hl d g1 M hrl hwl (i : Int) ⟨by omega, by omega⟩) dX3_divideRoundedDown_46 ml_X3_66 yw_X7_demandOf rfl (by decide) (by omega) (by decide) rfl rfl rfl (Nat.le_of_ble_eq_true rfl) ?_
      rw [show o_sm (fun j => if M 5 j = (i : Int) + 1 then M 4 j else 0) (M 0 1).toNat = d_of M i from rfl]
      refine o_imul dX3_divideRoundedDown_49 ?_
      refine o_istore dX3_divideRoundedDown_50 (by decide) ?_
      refine o_aload_n dX3_divideRoundedDown_52 rfl ?_
      refine o_gf dX3_divideRoundedDown_53 fl_X3_9 rfl (by decide) rfl ?_
      refine o_iload_n dX3_divideRoundedDown_56 rfl ?_
      refine o_iload_n dX3_divideRoundedDown_57 rfl ?_
      refine o_if_le (tgt := 68) dX3_divideRoundedDown_58 (by decide) ⟨by omega, by omega⟩ (fun c_58 => ?_) (fun c_58 => ?_)
      · skip
        refine o_iconst dX3_divideRoundedDown_68 ?_
        refine o_iaEn (j := i) dX3_divideRoundedDown_69 rfl (by decide) (by decide) rfl (by omega) (fun _ => rfl) (by decide) (fun g_69 e_69 => ?_)
        refine o_aload_n dX3_divideRoundedDown_70 rfl ?_
        refine o_gf dX3_divideRoundedDown_71 fl_X3_15 rfl (by decide) rfl ?_
        refine o_iload_n dX3_divideRoundedDown_74 rfl ?_
        refine o_iload_n dX3_divideRoundedDown_75 rfl ?_
        refine o_if_le (tgt := 86) dX3_divideRoundedDown_76 (by decide) ⟨by omega, by omega⟩ (fun c_76 => ?_) (fun c_76 => ?_)
        · skip
          refine o_iconst dX3_divideRoundedDown_86 ?_
          refine o_iaEn (j := i) dX3_divideRoundedDown_87 rfl (by decide) (by decide) rfl (by omega) (fun _ => rfl) (by decide) (fun g_87 e_87 => ?_)
          refine o_aload_n dX3_divideRoundedDown_88 rfl ?_
          refine o_gf dX3_divideRoundedDown_89 fl_X3_18 rfl (by decide) rfl ?_
          refine o_iload_n dX3_divideRoundedDown_92 rfl ?_
          refine o_iconst dX3_divideRoundedDown_93 ?_
          refine o_zaEn (j := i) dX3_divideRoundedDown_94 rfl (by decide) (by decide) rfl (by omega) (by first | exact Or.inl rfl | exact Or.inr rfl) (fun _ => rfl) (by decide) (fun g_94 e_94 => ?_)
          refine o_aload_n dX3_divideRoundedDown_95 rfl ?_
          refine o_dup dX3_divideRoundedDown_96 rfl ?_
          refine o_gf dX3_divideRoundedDown_97 fl_X3_38 rfl (by decide) rfl ?_
          refine o_aload_n dX3_divideRoundedDown_100 rfl ?_
          refine o_gf dX3_divideRoundedDown_101 fl_X3_9 rfl (by decide) rfl ?_
          refine o_iload_n dX3_divideRoundedDown_104 rfl ?_
          refine o_ialdn (j := i) dX3_divideRoundedDown_105 (by decide) rfl (by decide) rfl (by omega) ?_
          refine o_isub dX3_divideRoundedDown_106 ?_
          refine o_pmE dX3_divideRoundedDown_107 fp_X3_38 rfl (by decide) (Nat.le_of_ble_eq_true rfl) rfl rfl (fun _ => rfl) (by decide) (fun g_107 e_107 => ?_)
          refine o_iinc dX3_divideRoundedDown_110 rfl (by decide) ?_
          refine o_goto (tgt := 26) dX3_divideRoundedDown_113 (by decide) ?_
          refine o_loc [(0, .ref 159), (1, .ref 1), (2, .int (o_I (d_all M))), (3, .int (o_I (((i + 1) : Nat) : Int)))] rfl (ih (by omega) g_107 (o_st_fr h1 (S := o_dc) (fun a ha => by rw [e_107, o_e_n (fun q => ha (by rw [q]; exact ⟨by decide, by decide⟩)), e_94, o_e_n (fun q => ha (by rw [q]; exact ⟨by decide, by decide⟩)), e_87, o_e_n (fun q => ha (by rw [q]; exact ⟨by decide, by decide⟩)), e_69, o_e_n (fun q => ha (by rw [q]; exact ⟨by decide, by decide⟩))]) (fun a _ _ q => by have q2 : 159 ≤ a ∧ a ≤ 162 := q; omega)) ?_ (fun s hs => ?_) (o_fr_e' (o_fr_e' (o_fr_e' (o_fr_e' f1 e_69 (show o_dc _ from ⟨by decide, by decide⟩)) e_87 (show o_dc _ from ⟨by decide, by decide⟩)) e_94 (show o_dc _ from ⟨by decide, by decide⟩)) e_107 (show o_dc _ from ⟨by decide, by decide⟩)))
          · rw [e_107, o_e_s, e_94, o_e_n (by decide), o_e_n (by decide), e_87, o_e_n (by decide), o_e_n (by decide), e_69, o_e_n (by decide), o_e_s, h2]
            simp only [d_u, d_q, if_neg (show ¬ 0 < d_all M by omega)]
          · by_cases q : s = i
            · subst q
              refine ⟨?_, ?_, ?_⟩
              · rw [e_107, o_e_n (by decide), e_94, o_e_n (by decide), e_87, o_e_n (by decide), e_69, o_e_s]; simp only [d_q, if_neg (show ¬ 0 < d_all M by omega)]
              · rw [e_107, o_e_n (by decide), e_94, o_e_n (by decide), e_87, o_e_s]; simp only [d_r, if_neg (show ¬ 0 < d_all M by omega)]
              · rw [e_107, o_e_n (by decide), e_94, o_e_s]
            · have t := h3 s (by omega)
              refine ⟨?_, ?_, ?_⟩
              · rw [e_107, o_e_n (by decide), e_94, o_e_n (by decide), e_87, o_e_n (by decide), e_69, o_e_k q]; exact t.1
              · rw [e_107, o_e_n (by decide), e_94, o_e_n (by decide), e_87, o_e_k q, e_69, o_e_n (by decide)]; exact t.2.1
              · rw [e_107, o_e_n (by decide), e_94, o_e_k q, e_87, o_e_n (by decide), e_69, o_e_n (by decide)]; exact t.2.2
        · skip
          refine o_iload dX3_divideRoundedDown_79 rfl ?_
          refine o_iload_n dX3_divideRoundedDown_81 rfl ?_
          refine o_irem dX3_divideRoundedDown_82 ⟨by omega, by omega⟩ ⟨by omega, by omega⟩ (by omega) (by omega) ?_
          refine o_goto (tgt := 87) dX3_divideRoundedDown_83 (by decide) ?_
          refine o_iaEn (j := i) dX3_divideRoundedDown_87 rfl (by decide) (by decide) rfl (by omega) (fun _ => rfl) (by decide) (fun g_87 e_87 => ?_)
          refine o_aload_n dX3_divideRoundedDown_88 rfl ?_
          refine o_gf dX3_divideRoundedDown_89 fl_X3_18 rfl (by decide) rfl ?_
          refine o_iload_n dX3_divideRoundedDown_92 rfl ?_
          refine o_iconst dX3_divideRoundedDown_93 ?_
          refine o_zaEn (j := i) dX3_divideRoundedDown_94 rfl (by decide) (by decide) rfl (by omega) (by first | exact Or.inl rfl | exact Or.inr rfl) (fun _ => rfl) (by decide) (fun g_94 e_94 => ?_)
          refine o_aload_n dX3_divideRoundedDown_95 rfl ?_
          refine o_dup dX3_divideRoundedDown_96 rfl ?_
          refine o_gf dX3_divideRoundedDown_97 fl_X3_38 rfl (by decide) rfl ?_
          refine o_aload_n dX3_divideRoundedDown_100 rfl ?_
          refine o_gf dX3_divideRoundedDown_101 fl_X3_9 rfl (by decide) rfl ?_
          refine o_iload_n dX3_divideRoundedDown_104 rfl ?_
          refine o_ialdn (j := i) dX3_divideRoundedDown_105 (by decide) rfl (by decide) rfl (by omega) ?_
          refine o_isub dX3_divideRoundedDown_106 ?_
          refine o_pmE dX3_divideRoundedDown_107 fp_X3_38 rfl (by decide) (Nat.le_of_ble_eq_true rfl) rfl rfl (fun _ => rfl) (by decide) (fun g_107 e_107 => ?_)
          refine o_iinc dX3_divideRoundedDown_110 rfl (by decide) ?_
          refine o_goto (tgt := 26) dX3_divideRoundedDown_113 (by decide) ?_
          exfalso
          omega
      · skip
        refine o_iload dX3_divideRoundedDown_61 rfl ?_
        refine o_iload_n dX3_divideRoundedDown_63 rfl ?_
        refine o_idiv dX3_divideRoundedDown_64 ⟨by omega, by omega⟩ ⟨by omega, by omega⟩ (by omega) (by omega) ?_
        refine o_goto (tgt := 69) dX3_divideRoundedDown_65 (by decide) ?_
        refine o_iaEn (j := i) dX3_divideRoundedDown_69 rfl (by decide) (by decide) rfl (by omega) (fun _ => rfl) (by decide) (fun g_69 e_69 => ?_)
        refine o_aload_n dX3_divideRoundedDown_70 rfl ?_
        refine o_gf dX3_divideRoundedDown_71 fl_X3_15 rfl (by decide) rfl ?_
        refine o_iload_n dX3_divideRoundedDown_74 rfl ?_
        refine o_iload_n dX3_divideRoundedDown_75 rfl ?_
        refine o_if_le (tgt := 86) dX3_divideRoundedDown_76 (by decide) ⟨by omega, by omega⟩ (fun c_76 => ?_) (fun c_76 => ?_)
        · skip
          refine o_iconst dX3_divideRoundedDown_86 ?_
          refine o_iaEn (j := i) dX3_divideRoundedDown_87 rfl (by decide) (by decide) rfl (by omega) (fun _ => rfl) (by decide) (fun g_87 e_87 => ?_)
          refine o_aload_n dX3_divideRoundedDown_88 rfl ?_
          refine o_gf dX3_divideRoundedDown_89 fl_X3_18 rfl (by decide) rfl ?_
          refine o_iload_n dX3_divideRoundedDown_92 rfl ?_
          refine o_iconst dX3_divideRoundedDown_93 ?_
          refine o_zaEn (j := i) dX3_divideRoundedDown_94 rfl (by decide) (by decide) rfl (by omega) (by first | exact Or.inl rfl | exact Or.inr rfl) (fun _ => rfl) (by decide) (fun g_94 e_94 => ?_)
          refine o_aload_n dX3_divideRoundedDown_95 rfl ?_
          refine o_dup dX3_divideRoundedDown_96 rfl ?_
          refine o_gf dX3_divideRoundedDown_97 fl_X3_38 rfl (by decide) rfl ?_
          refine o_aload_n dX3_divideRoundedDown_100 rfl ?_
          refine o_gf dX3_divideRoundedDown_101 fl_X3_9 rfl (by decide) rfl ?_
          refine o_iload_n dX3_divideRoundedDown_104 rfl ?_
          refine o_ialdn (j := i) dX3_divideRoundedDown_105 (by decide) rfl (by decide) rfl (by omega) ?_
          refine o_isub dX3_divideRoundedDown_106 ?_
          refine o_pmE dX3_divideRoundedDown_107 fp_X3_38 rfl (by decide) (Nat.le_of_ble_eq_true rfl) rfl rfl (fun _ => rfl) (by decide) (fun g_107 e_107 => ?_)
          refine o_iinc dX3_divideRoundedDown_110 rfl (by decide) ?_
          refine o_goto (tgt := 26) dX3_divideRoundedDown_113 (by decide) ?_
          exfalso
          omega
        · skip
          refine o_iload dX3_divideRoundedDown_79 rfl ?_
          refine o_iload_n dX3_divideRoundedDown_81 rfl ?_
          refine o_irem dX3_divideRoundedDown_82 ⟨by omega, by omega⟩ ⟨by omega, by omega⟩ (by omega) (by omega) ?_
          refine o_goto (tgt := 87) dX3_divideRoundedDown_83 (by decide) ?_
          refine o_iaEn (j := i) dX3_divideRoundedDown_87 rfl (by decide) (by decide) rfl (by omega) (fun _ => rfl) (by decide) (fun g_87 e_87 => ?_)
          refine o_aload_n dX3_divideRoundedDown_88 rfl ?_
          refine o_gf dX3_divideRoundedDown_89 fl_X3_18 rfl (by decide) rfl ?_
          refine o_iload_n dX3_divideRoundedDown_92 rfl ?_
          refine o_iconst dX3_divideRoundedDown_93 ?_
          refine o_zaEn (j := i) dX3_divideRoundedDown_94 rfl (by decide) (by decide) rfl (by omega) (by first | exact Or.inl rfl | exact Or.inr rfl) (fun _ => rfl) (by decide) (fun g_94 e_94 => ?_)
          refine o_aload_n dX3_divideRoundedDown_95 rfl ?_
          refine o_dup dX3_divideRoundedDown_96 rfl ?_
          refine o_gf dX3_divideRoundedDown_97 fl_X3_38 rfl (by decide) rfl ?_
          refine o_aload_n dX3_divideRoundedDown_100 rfl ?_
          refine o_gf dX3_divideRoundedDown_101 fl_X3_9 rfl (by decide) rfl ?_
          refine o_iload_n dX3_divideRoundedDown_104 rfl ?_
          refine o_ialdn (j := i) dX3_divideRoundedDown_105 (by decide) rfl (by decide) rfl (by omega) ?_
          refine o_isub dX3_divideRoundedDown_106 ?_
          refine o_pmE dX3_divideRoundedDown_107 fp_X3_38 rfl (by decide) (Nat.le_of_ble_eq_true rfl) rfl rfl (fun _ => rfl) (by decide) (fun g_107 e_107 => ?_)
          refine o_iinc dX3_divideRoundedDown_110 rfl (by decide) ?_
          refine o_goto (tgt := 26) dX3_divideRoundedDown_113 (by decide) ?_
          refine o_loc [(0, .ref 159), (1, .ref 1), (2, .int (o_I (d_all M))), (3, .int (o_I (((i + 1) : Nat) : Int)))] rfl (ih (by omega) g_107 (o_st_fr h1 (S := o_dc) (fun a ha => by rw [e_107, o_e_n (fun q => ha (by rw [q]; exact ⟨by decide, by decide⟩)), e_94, o_e_n (fun q => ha (by rw [q]; exact ⟨by decide, by decide⟩)), e_87, o_e_n (fun q => ha (by rw [q]; exact ⟨by decide, by decide⟩)), e_69, o_e_n (fun q => ha (by rw [q]; exact ⟨by decide, by decide⟩))]) (fun a _ _ q => by have q2 : 159 ≤ a ∧ a ≤ 162 := q; omega)) ?_ (fun s hs => ?_) (o_fr_e' (o_fr_e' (o_fr_e' (o_fr_e' f1 e_69 (show o_dc _ from ⟨by decide, by decide⟩)) e_87 (show o_dc _ from ⟨by decide, by decide⟩)) e_94 (show o_dc _ from ⟨by decide, by decide⟩)) e_107 (show o_dc _ from ⟨by decide, by decide⟩)))
          · rw [e_107, o_e_s, e_94, o_e_n (by decide), o_e_n (by decide), e_87, o_e_n (by decide), o_e_n (by decide), e_69, o_e_n (by decide), o_e_s, h2]
            simp only [d_u, d_q, if_pos (show 0 < d_all M by omega)]
          · by_cases q : s = i
            · subst q
              refine ⟨?_, ?_, ?_⟩
              · rw [e_107, o_e_n (by decide), e_94, o_e_n (by decide), e_87, o_e_n (by decide), e_69, o_e_s]; simp only [d_q, if_pos (show 0 < d_all M by omega)]
              · rw [e_107, o_e_n (by decide), e_94, o_e_n (by decide), e_87, o_e_s]; simp only [d_r, if_pos (show 0 < d_all M by omega)]
              · rw [e_107, o_e_n (by decide), e_94, o_e_s]
            · have t := h3 s (by omega)
              refine ⟨?_, ?_, ?_⟩
              · rw [e_107, o_e_n (by decide), e_94, o_e_n (by decide), e_87, o_e_n (by decide), e_69, o_e_k q]; exact t.1
              · rw [e_107, o_e_n (by decide), e_94, o_e_n (by decide), e_87, o_e_k q, e_69, o_e_n (by decide)]; exact t.2.1
              · rw [e_107, o_e_n (by decide), e_94, o_e_k q, e_87, o_e_n (by decide), e_69, o_e_n (by decide)]; exact t.2.2)
  refine o_aload_n dX3_divideRoundedDown_0 rfl ?_
  refine o_gf dX3_divideRoundedDown_1 fl_X3_53 rfl (by decide) rfl ?_
  refine o_cV _ (ct_X7_demandOfAll hl d g M hrl hwl) dX3_divideRoundedDown_4 ml_X3_57 yw_X7_demandOfAll rfl (by decide) (by omega) (by decide) rfl rfl rfl (Nat.le_of_ble_eq_true rfl) ?_
  rw [show o_sm (fun i => if 0 < M 5 i then M 4 i else 0) (M 0 1).toNat = d_all M from rfl]
  refine o_istore_n dX3_divideRoundedDown_7 (by decide) ?_
  refine o_aload_n dX3_divideRoundedDown_8 rfl ?_
  refine o_iload_n dX3_divideRoundedDown_9 rfl ?_
  refine o_if_le (tgt := 20) dX3_divideRoundedDown_10 (by decide) ⟨by omega, by omega⟩ (fun c_10 => ?_) (fun c_10 => ?_)
  · skip
    refine o_iconst dX3_divideRoundedDown_20 ?_
    refine o_pmE dX3_divideRoundedDown_21 fp_X3_38 rfl (by decide) (Nat.le_of_ble_eq_true rfl) rfl rfl (fun _ => rfl) (by decide) (fun g_21 e_21 => ?_)
    refine o_iconst dX3_divideRoundedDown_24 ?_
    refine o_istore_n dX3_divideRoundedDown_25 (by decide) ?_
    exact o_loc _ rfl (key 0 (Nat.zero_le _) g_21 (o_st_fr hst (S := o_dc) (fun a ha => by rw [e_21, o_e_n (fun q => ha (by rw [q]; exact ⟨by decide, by decide⟩))]) (fun a _ _ q => by have q2 : 159 ≤ a ∧ a ≤ 162 := q; omega)) (by rw [e_21, o_e_s]; simp only [d_u, if_neg (show ¬ 0 < d_all M by omega)]) (fun s hs => absurd hs (Nat.not_lt_zero s)) (o_fr_e' o_fr_r e_21 (show o_dc _ from ⟨by decide, by decide⟩)))
  · skip
    refine o_aload_n dX3_divideRoundedDown_13 rfl ?_
    refine o_gf dX3_divideRoundedDown_14 fl_X3_63 rfl (by decide) rfl ?_
    rw [hg3]
    refine o_goto (tgt := 21) dX3_divideRoundedDown_17 (by decide) ?_
    refine o_pmE dX3_divideRoundedDown_21 fp_X3_38 rfl (by decide) (Nat.le_of_ble_eq_true rfl) rfl rfl (fun _ => rfl) (by decide) (fun g_21 e_21 => ?_)
    refine o_iconst dX3_divideRoundedDown_24 ?_
    refine o_istore_n dX3_divideRoundedDown_25 (by decide) ?_
    exact o_loc _ rfl (key 0 (Nat.zero_le _) g_21 (o_st_fr hst (S := o_dc) (fun a ha => by rw [e_21, o_e_n (fun q => ha (by rw [q]; exact ⟨by decide, by decide⟩))]) (fun a _ _ q => by have q2 : 159 ≤ a ∧ a ≤ 162 := q; omega)) (by rw [e_21, o_e_s]; simp only [d_u, if_pos (show 0 < d_all M by omega)]) (fun s hs => absurd hs (Nat.not_lt_zero s)) (o_fr_e' o_fr_r e_21 (show o_dc _ from ⟨by decide, by decide⟩)))
set_option maxRecDepth 100000 in
set_option maxHeartbeats 4000000 in
/-- giveOneUnit(ships) -/
theorem ct_X3_giveOneUnit {l : Launch} (hl : l.stackTraces = false) (d : Nat) (g : Nat → Nat → Int) (M : Nat → Nat → Int) (hwk : o_wk M) (k : Int) (hk0 : 0 ≤ k) (hdv : o_dv g M k) : o_Ct l yX3_giveOneUnit wX3_giveOneUnit (d + 1) o_no [.ref 159, .int (o_I (M 0 0))] o_N (o_mem g) 0 0 (o_mt (none) (fun g' => o_dv g' M (k + 1) ∧ o_fr o_dc g g')) := by
  refine o_Ct.ofV hl mX3_giveOneUnit (by decide +kernel) rfl rfl rfl (Nat.le_of_ble_eq_true rfl) ?_
  obtain ⟨hws, hwl, hwq, hwo, hwle, hwrq, hwrd⟩ := id hwk
  obtain ⟨hw1, hw2, hw3⟩ := id hws
  have key := o_lp (fun i => ∀ c : Int, ((c = -1 ∧ ∀ j : Nat, j < i → d_rk M j < k) ∨ ∃ x : Nat, c = (x : Int) ∧ x < i ∧ k ≤ d_rk M x ∧ ∀ j : Nat, j < i → k ≤ d_rk M j → j ≠ x → d_ah M x j) → o_V l mX3_giveOneUnit (d + 1) o_no (o_mt (none) (fun g' => o_dv g' M (k + 1) ∧ o_fr o_dc g g')) 4 [(0, .ref 159), (1, .int (o_I (M 0 0))), (2, .int (o_I (c))), (3, .int (o_I ((i : Nat) : Int)))] [] o_N (o_mem g) 0 0) (M 0 0).toNat (fun i hi ih c hc => by
    refine o_iload_n dX3_giveOneUnit_4 rfl ?_
    refine o_iload_n dX3_giveOneUnit_5 rfl ?_
    refine o_icmp_ge (tgt := 52) dX3_giveOneUnit_6 (by decide) ⟨by omega, by omega⟩ ⟨by omega, by omega⟩ (fun c_6 => ?_) (fun c_6 => ?_)
    · skip
      have hcR : o_R c := by rcases hc with ⟨a1, a2⟩ | ⟨x, a1, a2, a3, a4⟩ <;> exact ⟨by omega, by omega⟩
      refine o_iload_n dX3_giveOneUnit_52 rfl ?_
      refine o_iconst dX3_giveOneUnit_53 ?_
      refine o_icmp_eq (tgt := 74) dX3_giveOneUnit_54 (by decide) ⟨by omega, by omega⟩ ⟨by omega, by omega⟩ (fun c_54 => ?_) (fun c_54 => ?_)
      · skip
        refine o_ret0 dX3_giveOneUnit_74 trivial ?_
        rcases hc with ⟨a1, a2⟩ | ⟨x, a1, a2, a3, a4⟩
        · refine o_mt0 ⟨⟨hdv.1, fun s hs => ?_⟩, o_fr_r⟩
          have t := hdv.2 s hs
          have u := a2 s (by omega)
          rw [o_b1 u] at t
          rw [o_b1 (by omega)]
          exact t
        · exfalso; omega
      · skip
        obtain ⟨x, a1, a2, a3, a4⟩ : ∃ x : Nat, c = (x : Int) ∧ x < i ∧ k ≤ d_rk M x ∧ ∀ j : Nat, j < i → k ≤ d_rk M j → j ≠ x → d_ah M x j := by
          rcases hc with ⟨a1, a2⟩ | q
          · exact absurd a1 c_54
          · exact q
        subst a1
        have hxn : (x : Int) < M 0 0 := by omega
        have hxk : d_rk M x = k := by
          have t := d_rk_top hxn
          obtain ⟨y, b1, b2⟩ := d_rk_ex (M := M) (r := k) hk0 (by omega)
          by_cases q : y = x
          · rw [← q]; exact b2
          · have := d_rk_lt hxn (a4 y (by omega) (by omega) q)
            omega
        refine o_aload_n dX3_giveOneUnit_57 rfl ?_
        refine o_gf dX3_giveOneUnit_58 fl_X3_18 rfl (by decide) rfl ?_
        refine o_iload_n dX3_giveOneUnit_61 rfl ?_
        refine o_iconst dX3_giveOneUnit_62 ?_
        refine o_zaEn (j := x) dX3_giveOneUnit_63 rfl (by decide) (by decide) rfl (by omega) (by first | exact Or.inl rfl | exact Or.inr rfl) (fun _ => rfl) (by decide) (fun g_63 e_63 => ?_)
        refine o_aload_n dX3_giveOneUnit_64 rfl ?_
        refine o_gf dX3_giveOneUnit_65 fl_X3_9 rfl (by decide) rfl ?_
        refine o_iload_n dX3_giveOneUnit_68 rfl ?_
        refine o_dup2 dX3_giveOneUnit_69 rfl rfl ?_
        refine o_ialdn (j := x) dX3_giveOneUnit_70 (by decide) rfl (by decide) rfl (by omega) ?_
        refine o_iconst dX3_giveOneUnit_71 ?_
        refine o_iadd dX3_giveOneUnit_72 ?_
        refine o_iaEn (j := x) dX3_giveOneUnit_73 rfl (by decide) (by decide) rfl (by omega) (fun _ => rfl) (by decide) (fun g_73 e_73 => ?_)
        refine o_ret0 dX3_giveOneUnit_74 trivial ?_
        refine o_mt0 ⟨⟨?_, fun s hs => ?_⟩, o_fr_e' (o_fr_e' o_fr_r e_63 (show o_dc _ from ⟨by decide, by decide⟩)) e_73 (show o_dc _ from ⟨by decide, by decide⟩)⟩
        · rw [e_73, o_e_n (by decide), e_63, o_e_n (by decide)]; exact hdv.1
        · have t := hdv.2 s hs
          by_cases q : s = x
          · subst q
            rw [o_b0 (by omega)] at t
            rw [e_73, o_e_s, o_e_n (by decide), o_e_n (by decide), e_63, o_e_n (by decide), o_e_n (by decide), o_e_s, o_b1 (by omega)]
            exact ⟨by omega, t.2.1, rfl⟩
          · rw [e_73, o_e_k q, o_e_n (by decide), o_e_n (by decide), e_63, o_e_n (by decide), o_e_n (by decide), o_e_k q]
            have hne : d_rk M s ≠ k := fun z => q (d_rk_inj hs hxn (by omega))
            rw [show o_b (d_rk M s < k + 1) = o_b (d_rk M s < k) from o_bc ⟨fun z => by omega, fun z => by omega⟩]
            exact t
    · skip
      refine o_iload_n dX3_giveOneUnit_9 rfl ?_
      refine o_bipush dX3_giveOneUnit_10 (by decide) ?_
      refine o_icmp_ge (tgt := 52) dX3_giveOneUnit_12 (by decide) ⟨by omega, by omega⟩ ⟨by omega, by omega⟩ (fun c_12 => ?_) (fun c_12 => ?_)
      · skip
        have hcR : o_R c := by rcases hc with ⟨a1, a2⟩ | ⟨x, a1, a2, a3, a4⟩ <;> exact ⟨by omega, by omega⟩
        refine o_iload_n dX3_giveOneUnit_52 rfl ?_
        refine o_iconst dX3_giveOneUnit_53 ?_
        refine o_icmp_eq (tgt := 74) dX3_giveOneUnit_54 (by decide) ⟨by omega, by omega⟩ ⟨by omega, by omega⟩ (fun c_54 => ?_) (fun c_54 => ?_)
        · skip
          exfalso
          omega
        · skip
          obtain ⟨x, a1, a2, a3, a4⟩ : ∃ x : Nat, c = (x : Int) ∧ x < i ∧ k ≤ d_rk M x ∧ ∀ j : Nat, j < i → k ≤ d_rk M j → j ≠ x → d_ah M x j := by
            rcases hc with ⟨a1, a2⟩ | q
            · exact absurd a1 c_54
            · exact q
          subst a1
          have hxn : (x : Int) < M 0 0 := by omega
          have hxk : d_rk M x = k := by
            have t := d_rk_top hxn
            obtain ⟨y, b1, b2⟩ := d_rk_ex (M := M) (r := k) hk0 (by omega)
            by_cases q : y = x
            · rw [← q]; exact b2
            · have := d_rk_lt hxn (a4 y (by omega) (by omega) q)
              omega
          refine o_aload_n dX3_giveOneUnit_57 rfl ?_
          refine o_gf dX3_giveOneUnit_58 fl_X3_18 rfl (by decide) rfl ?_
          refine o_iload_n dX3_giveOneUnit_61 rfl ?_
          refine o_iconst dX3_giveOneUnit_62 ?_
          refine o_zaEn (j := x) dX3_giveOneUnit_63 rfl (by decide) (by decide) rfl (by omega) (by first | exact Or.inl rfl | exact Or.inr rfl) (fun _ => rfl) (by decide) (fun g_63 e_63 => ?_)
          refine o_aload_n dX3_giveOneUnit_64 rfl ?_
          refine o_gf dX3_giveOneUnit_65 fl_X3_9 rfl (by decide) rfl ?_
          refine o_iload_n dX3_giveOneUnit_68 rfl ?_
          refine o_dup2 dX3_giveOneUnit_69 rfl rfl ?_
          refine o_ialdn (j := x) dX3_giveOneUnit_70 (by decide) rfl (by decide) rfl (by omega) ?_
          refine o_iconst dX3_giveOneUnit_71 ?_
          refine o_iadd dX3_giveOneUnit_72 ?_
          refine o_iaEn (j := x) dX3_giveOneUnit_73 rfl (by decide) (by decide) rfl (by omega) (fun _ => rfl) (by decide) (fun g_73 e_73 => ?_)
          exfalso
          omega
      · skip
        have hi9 : (i : Int) < M 0 0 := by omega
        have h678 := hdv.2 i hi9
        have h8 := h678.2.2
        have h01 := o_b01 (d_rk M i < k)
        have hcR : o_R c := by rcases hc with ⟨a1, a2⟩ | ⟨x, a1, a2, a3, a4⟩ <;> exact ⟨by omega, by omega⟩
        refine o_aload_n dX3_giveOneUnit_15 rfl ?_
        refine o_gf dX3_giveOneUnit_16 fl_X3_18 rfl (by decide) rfl ?_
        refine o_iload_n dX3_giveOneUnit_19 rfl ?_
        refine o_zaldn (j := i) dX3_giveOneUnit_20 (by decide) rfl (by decide) rfl (by omega) ?_
        refine o_if_ne (tgt := 46) dX3_giveOneUnit_21 (by decide) ⟨by omega, by omega⟩ (fun c_21 => ?_) (fun c_21 => ?_)
        · skip
          refine o_iinc dX3_giveOneUnit_46 rfl (by decide) ?_
          refine o_goto (tgt := 4) dX3_giveOneUnit_49 (by decide) ?_
          refine o_loc [(0, .ref 159), (1, .int (o_I (M 0 0))), (2, .int (o_I (c))), (3, .int (o_I (((i + 1) : Nat) : Int)))] rfl (ih (by omega) c ?_)
          have hfav : d_rk M i < k := by
            by_cases q : d_rk M i < k
            · exact q
            · rw [o_b0 q] at h8; omega
          rcases hc with ⟨a1, a2⟩ | ⟨x, a1, a2, a3, a4⟩
          · exact Or.inl ⟨a1, fun j hj => by by_cases q : j = i; rw [q]; exact hfav; exact a2 j (by omega)⟩
          · exact Or.inr ⟨x, a1, by omega, a3, fun j hj hk hx => a4 j (by by_cases q : j = i; (rw [q] at hk; omega); omega) hk hx⟩
        · skip
          refine o_iload_n dX3_giveOneUnit_24 rfl ?_
          refine o_iconst dX3_giveOneUnit_25 ?_
          refine o_icmp_eq (tgt := 44) dX3_giveOneUnit_26 (by decide) ⟨by omega, by omega⟩ ⟨by omega, by omega⟩ (fun c_26 => ?_) (fun c_26 => ?_)
          · skip
            refine o_iload_n dX3_giveOneUnit_44 rfl ?_
            refine o_istore_n dX3_giveOneUnit_45 (by decide) ?_
            refine o_iinc dX3_giveOneUnit_46 rfl (by decide) ?_
            refine o_goto (tgt := 4) dX3_giveOneUnit_49 (by decide) ?_
            have hnf : k ≤ d_rk M i := by
              by_cases q : d_rk M i < k
              · rw [o_b1 q] at h8; omega
              · omega
            refine o_loc [(0, .ref 159), (1, .int (o_I (M 0 0))), (2, .int (o_I ((i : Int)))), (3, .int (o_I (((i + 1) : Nat) : Int)))] rfl (ih (by omega) i ?_)
            rcases hc with ⟨a1, a2⟩ | ⟨x, a1, a2, a3, a4⟩
            · exact Or.inr ⟨i, rfl, by omega, hnf, fun j hj hk hx => by have := a2 j (by omega); omega⟩
            · exfalso; omega
          · skip
            obtain ⟨x, a1, a2, a3, a4⟩ : ∃ x : Nat, c = (x : Int) ∧ x < i ∧ k ≤ d_rk M x ∧ ∀ j : Nat, j < i → k ≤ d_rk M j → j ≠ x → d_ah M x j := by
              rcases hc with ⟨a1, a2⟩ | q
              · exact absurd a1 c_26
              · exact q
            subst a1
            have hx9 := (hdv.2 x (by omega)).2.1
            have hi8 := h678.2.1
            have r1 := d_r_R hwk x
            have r2 := d_r_R hwk i
            refine o_aload_n dX3_giveOneUnit_29 rfl ?_
            refine o_gf dX3_giveOneUnit_30 fl_X3_15 rfl (by decide) rfl ?_
            refine o_iload_n dX3_giveOneUnit_33 rfl ?_
            refine o_ialdn (j := i) dX3_giveOneUnit_34 (by decide) rfl (by decide) rfl (by omega) ?_
            refine o_aload_n dX3_giveOneUnit_35 rfl ?_
            refine o_gf dX3_giveOneUnit_36 fl_X3_15 rfl (by decide) rfl ?_
            refine o_iload_n dX3_giveOneUnit_39 rfl ?_
            refine o_ialdn (j := x) dX3_giveOneUnit_40 (by decide) rfl (by decide) rfl (by omega) ?_
            refine o_icmp_le (tgt := 46) dX3_giveOneUnit_41 (by decide) ⟨by omega, by omega⟩ ⟨by omega, by omega⟩ (fun c_41 => ?_) (fun c_41 => ?_)
            · skip
              refine o_iinc dX3_giveOneUnit_46 rfl (by decide) ?_
              refine o_goto (tgt := 4) dX3_giveOneUnit_49 (by decide) ?_
              have hnf : k ≤ d_rk M i := by
                by_cases q : d_rk M i < k
                · rw [o_b1 q] at h8; omega
                · omega
              refine o_loc [(0, .ref 159), (1, .int (o_I (M 0 0))), (2, .int (o_I ((x : Int)))), (3, .int (o_I (((i + 1) : Nat) : Int)))] rfl (ih (by omega) (x : Int) (Or.inr ⟨x, rfl, by omega, a3, fun j hj hk hx => ?_⟩))
              by_cases q : j = i
              · rw [q]; unfold d_ah; omega
              · exact a4 j (by omega) hk hx
            · skip
              refine o_iload_n dX3_giveOneUnit_44 rfl ?_
              refine o_istore_n dX3_giveOneUnit_45 (by decide) ?_
              refine o_iinc dX3_giveOneUnit_46 rfl (by decide) ?_
              refine o_goto (tgt := 4) dX3_giveOneUnit_49 (by decide) ?_
              have hnf : k ≤ d_rk M i := by
                by_cases q : d_rk M i < k
                · rw [o_b1 q] at h8; omega
                · omega
              refine o_loc [(0, .ref 159), (1, .int (o_I (M 0 0))), (2, .int (o_I ((i : Int)))), (3, .int (o_I (((i + 1) : Nat) : Int)))] rfl (ih (by omega) i (Or.inr ⟨i, rfl, by omega, hnf, fun j hj hk hx => ?_⟩))
              have hxi : d_ah M i x := Or.inl (by omega)
              by_cases q : j = x
              · rw [q]; exact hxi
              · exact (d_ord M).1 i x j hxi (a4 j (by omega) hk q))
  refine o_iconst dX3_giveOneUnit_0 ?_
  refine o_istore_n dX3_giveOneUnit_1 (by decide) ?_
  refine o_iconst dX3_giveOneUnit_2 ?_
  refine o_istore_n dX3_giveOneUnit_3 (by decide) ?_
  exact o_loc _ rfl (key 0 (Nat.zero_le _) (-1) (Or.inl ⟨rfl, fun j hj => absurd hj (Nat.not_lt_zero j)⟩))
