/-! the reference carries a text out -/
def c_ok (c : Nat × List Int) : Prop := c.1 < 7 ∧ c.2.length = (p_wd c.1).length ∧ ∀ i, i < c.2.length → 0 ≤ c.2.getD i 0 ∧ c.2.getD i 0 ≤ 999
def c_rs (s : Nat) : Nat := match s with
  | 0 => 36
  | 1 => 31
  | 2 => 31
  | 3 => 32
  | 4 => 33
  | 5 => 34
  | _ => 35
theorem p_nums_ok (t : Nat → Int) (n : Nat) : ∀ (ms : List Nat) (p : Nat), (∀ m ∈ ms, m ≤ 3) → (p_nums t n ms p).1 = true → (p_nums t n ms p).2.2.length = ms.length ∧ ∀ i, i < (p_nums t n ms p).2.2.length → 0 ≤ (p_nums t n ms p).2.2.getD i 0 ∧ (p_nums t n ms p).2.2.getD i 0 ≤ 999
  | [], p => fun _ _ => ⟨rfl, fun i hi => absurd hi (Nat.not_lt_zero i)⟩
  | m :: ms, p => fun hm hok => by
    unfold p_nums at hok ⊢
    by_cases h : (p_num t n m p).1 = true
    · rw [if_pos h] at hok ⊢
      have ih := p_nums_ok t n ms (p_num t n m p).2.1 (fun m hm' => hm m (List.mem_cons_of_mem _ hm')) hok
      refine ⟨by show (_ :: _ : List Int).length = _; rw [List.length_cons, List.length_cons, ih.1], fun i hi => ?_⟩
      cases i with
      | zero => exact p_num_v t n p m (hm m List.mem_cons_self)
      | succ i => exact ih.2 i (by have hi : i + 1 < (_ :: _ : List Int).length := hi; rw [List.length_cons] at hi; omega)
    · rw [if_neg h] at hok
      cases hok
theorem p_cmd_ok {t : Nat → Int} {n p : Nat} (hok : (p_cmd t n p).1 = true) : c_ok (p_cmd t n p).2.2 := by
  have hl := p_sel_lt t n p
  unfold p_cmd at hok ⊢
  by_cases h : p_cl t n (p_W (p_sel t n p)) p = (p_W (p_sel t n p)).length
  · rw [if_pos h] at hok ⊢
    by_cases h6 : p_sel t n p = 6 ∧ p_tx t n (p_we t n p) ≠ 32
    · rw [if_pos h6]
      refine ⟨(by decide : (6 : Nat) < 7), rfl, fun i hi => ?_⟩
      have hi : i < 1 := hi
      rcases (by omega : i = 0) with rfl
      exact ⟨(by decide : (0 : Int) ≤ 1), (by decide : (1 : Int) ≤ 999)⟩
    · rw [if_neg h6] at hok ⊢
      have := p_nums_ok t n (p_wd (p_sel t n p)) (p_we t n p) (by
        rcases (by omega : p_sel t n p = 0 ∨ p_sel t n p = 1 ∨ p_sel t n p = 2 ∨ p_sel t n p = 3 ∨ p_sel t n p = 4 ∨ p_sel t n p = 5 ∨ p_sel t n p = 6) with q | q | q | q | q | q | q <;> rw [q] <;> decide) hok
      exact ⟨hl, this.1, this.2⟩
  · rw [if_neg h] at hok; cases hok
theorem p_all_ok {t : Nat → Int} {n : Nat} : ∀ (f p : Nat), p ≤ n → (p_all t n f p).1 = true → (∀ c ∈ (p_all t n f p).2.2, c_ok c) ∧ 5 * (p_all t n f p).2.2.length ≤ n - p + 1
  | 0, p => fun _ h => by cases h
  | f + 1, p => fun hp hok => by
    have hi := p_cmd_in (t := t) hp
    unfold p_all at hok ⊢
    by_cases c1 : (p_cmd t n p).1 = true
    · rw [if_pos c1] at hok ⊢
      have h4 := hi.2.2 c1
      have hc := p_cmd_ok c1
      by_cases c2 : n ≤ (p_cmd t n p).2.1
      · rw [if_pos c2]
        exact ⟨fun c hc' => by rw [List.mem_singleton.mp hc']; exact hc, by show 5 * 1 ≤ _; omega⟩
      · rw [if_neg c2] at hok ⊢
        by_cases c3 : p_tx t n (p_cmd t n p).2.1 = 59
        · rw [if_pos c3] at hok ⊢
          have ih := p_all_ok f ((p_cmd t n p).2.1 + 1) (by omega) hok
          refine ⟨fun c hc' => ?_, ?_⟩
          · rcases List.mem_cons.mp hc' with q | q
            · rw [q]; exact hc
            · exact ih.1 c q
          · show 5 * (_ :: _ : List _).length ≤ _
            rw [List.length_cons]
            have := ih.2
            omega
        · rw [if_neg c3] at hok; cases hok
    · rw [if_neg c1] at hok; cases hok
theorem o_wtR0 : o_wt 36 [115] := ⟨by decide, by decide, by decide⟩
theorem o_wtR1 : o_wt 31 [97, 115] := ⟨by decide, by decide, by decide⟩
theorem o_wtR3 : o_wt 32 [105, 97, 115, 117] := ⟨by decide, by decide, by decide⟩
theorem o_wtR4 : o_wt 33 [105, 97, 110, 115] := ⟨by decide, by decide, by decide⟩
theorem o_wtR5 : o_wt 34 [105, 110] := ⟨by decide, by decide, by decide⟩
theorem o_wtR6 : o_wt 35 [97] := ⟨by decide, by decide, by decide⟩
set_option maxRecDepth 100000 in
set_option maxHeartbeats 4000000 in
/-- does(k) -/
theorem ct_X12_does {l : Launch} (hl : l.stackTraces = false) (d : Nat) (g M : Nat → Nat → Int) (hsr : o_sr (g 193) M) (hwf : o_wf M) (hh : M 0 3 + 48 ≤ 1000000) (k : Nat) (hk : k < 60) (c : Nat × List Int) (hc : c_ok c) (hA : o_cA g k c) : o_Ct l yX12_does wX12_does (d + 6) o_no [.ref 192, .int (o_I (k : Int))] o_N (o_mem g) 0 0 (o_mt (some (.ref (2000000 + c_rs c.1))) (fun g' => (c_r M c = 0 → o_sr (g' 193) (c_m M c) ∧ o_fr o_mc g g') ∧ (c_r M c ≠ 0 → g' = o_e g 192 7 (c_r M c)))) := by
  refine o_Ct.ofV hl mX12_does (by decide +kernel) rfl rfl rfl (Nat.le_of_ble_eq_true rfl) ?_
  obtain ⟨s, N⟩ := c
  obtain ⟨hA1, hA2⟩ := hA
  obtain ⟨hc1, hc2, hc3⟩ := hc
  have hc1 : s < 7 := hc1
  rcases (by omega : s = 0 ∨ s = 1 ∨ s = 2 ∨ s = 3 ∨ s = 4 ∨ s = 5 ∨ s = 6) with rfl | rfl | rfl | rfl | rfl | rfl | rfl
  · have hK : g 200 (4 * k) = 115 := hA1
    refine o_aload_n dX12_does_0 rfl ?_
    refine o_gf dX12_does_1 fl_X12_39 rfl (by decide) rfl ?_
    refine o_iconst dX12_does_4 ?_
    refine o_iload_n dX12_does_5 rfl ?_
    refine o_imul dX12_does_6 ?_
    refine o_iconst dX12_does_7 ?_
    refine o_iadd dX12_does_8 ?_
    refine o_ialdn (j := (4 * k + 1)) dX12_does_9 (by decide) rfl (by decide) (by first | rfl | omega) (by omega) ?_
    refine o_istore_n dX12_does_10 (by decide) ?_
    refine o_aload_n dX12_does_11 rfl ?_
    refine o_gf dX12_does_12 fl_X12_39 rfl (by decide) rfl ?_
    refine o_iconst dX12_does_15 ?_
    refine o_iload_n dX12_does_16 rfl ?_
    refine o_imul dX12_does_17 ?_
    refine o_iconst dX12_does_18 ?_
    refine o_iadd dX12_does_19 ?_
    refine o_ialdn (j := (4 * k + 2)) dX12_does_20 (by decide) rfl (by decide) (by first | rfl | omega) (by omega) ?_
    refine o_istore_n dX12_does_21 (by decide) ?_
    refine o_aload_n dX12_does_22 rfl ?_
    refine o_gf dX12_does_23 fl_X12_39 rfl (by decide) rfl ?_
    refine o_iconst dX12_does_26 ?_
    refine o_iload_n dX12_does_27 rfl ?_
    refine o_imul dX12_does_28 ?_
    refine o_ialdn (j := (4 * k)) dX12_does_29 (by decide) rfl (by decide) (by first | rfl | omega) (by omega) ?_
    rw [hK]
    refine o_lookup (off := 130) (tgt := 160) dX12_does_30 (by decide) (by decide) (by decide) ?_
    refine o_aload_n dX12_does_160 rfl ?_
    refine o_cVm _ (ct_X12_doAddShip hl (d + 3) g M hsr hwf.1) dX12_does_161 ml_X12_76 yw_X12_doAddShip rfl (by decide) (by omega) (by decide) rfl rfl rfl (Nat.le_of_ble_eq_true rfl) (fun g_161 q_161 => ?_)
    refine o_istore dX12_does_164 (by decide) ?_
    refine o_ldcS (num := 36) dX12_does_166 (show (RX12, 242, "s", 36) ∈ o_str by decide) ?_
    refine o_ret1 dX12_does_168 (Or.inr ⟨_, rfl⟩) ?_
    exact ⟨rfl, rfl, _, rfl, q_161⟩
  · have hK : g 200 (4 * k) = 97 := hA1
    have hlen : N.length = 1 := hc2
    have a0 : g 200 (4 * k + 1) = N.getD 0 0 := by have := hA2 0 (by show 0 < N.length; omega); rw [show 4 * k + 1 + 0 = 4 * k + 1 by omega] at this; exact this
    have b0 : 0 ≤ N.getD 0 0 ∧ N.getD 0 0 ≤ 999 := hc3 0 (by show 0 < N.length; omega)
    have r0 : o_R (N.getD 0 0) := ⟨by omega, by omega⟩
    refine o_aload_n dX12_does_0 rfl ?_
    refine o_gf dX12_does_1 fl_X12_39 rfl (by decide) rfl ?_
    refine o_iconst dX12_does_4 ?_
    refine o_iload_n dX12_does_5 rfl ?_
    refine o_imul dX12_does_6 ?_
    refine o_iconst dX12_does_7 ?_
    refine o_iadd dX12_does_8 ?_
    refine o_ialdn (j := (4 * k + 1)) dX12_does_9 (by decide) rfl (by decide) (by first | rfl | omega) (by omega) ?_
    rw [a0]
    refine o_istore_n dX12_does_10 (by decide) ?_
    refine o_aload_n dX12_does_11 rfl ?_
    refine o_gf dX12_does_12 fl_X12_39 rfl (by decide) rfl ?_
    refine o_iconst dX12_does_15 ?_
    refine o_iload_n dX12_does_16 rfl ?_
    refine o_imul dX12_does_17 ?_
    refine o_iconst dX12_does_18 ?_
    refine o_iadd dX12_does_19 ?_
    refine o_ialdn (j := (4 * k + 2)) dX12_does_20 (by decide) rfl (by decide) (by first | rfl | omega) (by omega) ?_
    refine o_istore_n dX12_does_21 (by decide) ?_
    refine o_aload_n dX12_does_22 rfl ?_
    refine o_gf dX12_does_23 fl_X12_39 rfl (by decide) rfl ?_
    refine o_iconst dX12_does_26 ?_
    refine o_iload_n dX12_does_27 rfl ?_
    refine o_imul dX12_does_28 ?_
    refine o_ialdn (j := (4 * k)) dX12_does_29 (by decide) rfl (by decide) (by first | rfl | omega) (by omega) ?_
    rw [hK]
    refine o_lookup (off := 58) (tgt := 88) dX12_does_30 (by decide) (by decide) (by decide) ?_
    refine o_aload_n dX12_does_88 rfl ?_
    refine o_iload_n dX12_does_89 rfl ?_
    refine o_cVm _ (ct_X12_doAddLamp hl (d + 3) g M hsr hwf.1 (N.getD 0 0) r0) dX12_does_90 ml_X12_83 yw_X12_doAddLamp rfl (by decide) (by omega) (by decide) rfl rfl rfl (Nat.le_of_ble_eq_true rfl) (fun g_90 q_90 => ?_)
    refine o_istore dX12_does_93 (by decide) ?_
    refine o_ldcS (num := 31) dX12_does_95 (show (RX12, 233, "as", 31) ∈ o_str by decide) ?_
    refine o_ret1 dX12_does_97 (Or.inr ⟨_, rfl⟩) ?_
    exact ⟨rfl, rfl, _, rfl, q_90⟩
  · have hK : g 200 (4 * k) = 111 := hA1
    have hlen : N.length = 1 := hc2
    have a0 : g 200 (4 * k + 1) = N.getD 0 0 := by have := hA2 0 (by show 0 < N.length; omega); rw [show 4 * k + 1 + 0 = 4 * k + 1 by omega] at this; exact this
    have b0 : 0 ≤ N.getD 0 0 ∧ N.getD 0 0 ≤ 999 := hc3 0 (by show 0 < N.length; omega)
    have r0 : o_R (N.getD 0 0) := ⟨by omega, by omega⟩
    refine o_aload_n dX12_does_0 rfl ?_
    refine o_gf dX12_does_1 fl_X12_39 rfl (by decide) rfl ?_
    refine o_iconst dX12_does_4 ?_
    refine o_iload_n dX12_does_5 rfl ?_
    refine o_imul dX12_does_6 ?_
    refine o_iconst dX12_does_7 ?_
    refine o_iadd dX12_does_8 ?_
    refine o_ialdn (j := (4 * k + 1)) dX12_does_9 (by decide) rfl (by decide) (by first | rfl | omega) (by omega) ?_
    rw [a0]
    refine o_istore_n dX12_does_10 (by decide) ?_
    refine o_aload_n dX12_does_11 rfl ?_
    refine o_gf dX12_does_12 fl_X12_39 rfl (by decide) rfl ?_
    refine o_iconst dX12_does_15 ?_
    refine o_iload_n dX12_does_16 rfl ?_
    refine o_imul dX12_does_17 ?_
    refine o_iconst dX12_does_18 ?_
    refine o_iadd dX12_does_19 ?_
    refine o_ialdn (j := (4 * k + 2)) dX12_does_20 (by decide) rfl (by decide) (by first | rfl | omega) (by omega) ?_
    refine o_istore_n dX12_does_21 (by decide) ?_
    refine o_aload_n dX12_does_22 rfl ?_
    refine o_gf dX12_does_23 fl_X12_39 rfl (by decide) rfl ?_
    refine o_iconst dX12_does_26 ?_
    refine o_iload_n dX12_does_27 rfl ?_
    refine o_imul dX12_does_28 ?_
    refine o_ialdn (j := (4 * k)) dX12_does_29 (by decide) rfl (by decide) (by first | rfl | omega) (by omega) ?_
    rw [hK]
    refine o_lookup (off := 68) (tgt := 98) dX12_does_30 (by decide) (by decide) (by decide) ?_
    refine o_aload_n dX12_does_98 rfl ?_
    refine o_iload_n dX12_does_99 rfl ?_
    refine o_cVm _ (ct_X12_doAddOil hl (d + 3) g M hsr hwf.1 (N.getD 0 0) r0) dX12_does_100 ml_X12_86 yw_X12_doAddOil rfl (by decide) (by omega) (by decide) rfl rfl rfl (Nat.le_of_ble_eq_true rfl) (fun g_100 q_100 => ?_)
    refine o_istore dX12_does_103 (by decide) ?_
    refine o_ldcS (num := 31) dX12_does_105 (show (RX12, 233, "as", 31) ∈ o_str by decide) ?_
    refine o_ret1 dX12_does_107 (Or.inr ⟨_, rfl⟩) ?_
    exact ⟨rfl, rfl, _, rfl, q_100⟩
  · have hK : g 200 (4 * k) = 108 := hA1
    have hlen : N.length = 3 := hc2
    have a0 : g 200 (4 * k + 1) = N.getD 0 0 := by have := hA2 0 (by show 0 < N.length; omega); rw [show 4 * k + 1 + 0 = 4 * k + 1 by omega] at this; exact this
    have b0 : 0 ≤ N.getD 0 0 ∧ N.getD 0 0 ≤ 999 := hc3 0 (by show 0 < N.length; omega)
    have r0 : o_R (N.getD 0 0) := ⟨by omega, by omega⟩
    have a1 : g 200 (4 * k + 2) = N.getD 1 0 := by have := hA2 1 (by show 1 < N.length; omega); rw [show 4 * k + 1 + 1 = 4 * k + 2 by omega] at this; exact this
    have b1 : 0 ≤ N.getD 1 0 ∧ N.getD 1 0 ≤ 999 := hc3 1 (by show 1 < N.length; omega)
    have r1 : o_R (N.getD 1 0) := ⟨by omega, by omega⟩
    have a2 : g 200 (4 * k + 3) = N.getD 2 0 := by have := hA2 2 (by show 2 < N.length; omega); rw [show 4 * k + 1 + 2 = 4 * k + 3 by omega] at this; exact this
    have b2 : 0 ≤ N.getD 2 0 ∧ N.getD 2 0 ≤ 999 := hc3 2 (by show 2 < N.length; omega)
    have r2 : o_R (N.getD 2 0) := ⟨by omega, by omega⟩
    refine o_aload_n dX12_does_0 rfl ?_
    refine o_gf dX12_does_1 fl_X12_39 rfl (by decide) rfl ?_
    refine o_iconst dX12_does_4 ?_
    refine o_iload_n dX12_does_5 rfl ?_
    refine o_imul dX12_does_6 ?_
    refine o_iconst dX12_does_7 ?_
    refine o_iadd dX12_does_8 ?_
    refine o_ialdn (j := (4 * k + 1)) dX12_does_9 (by decide) rfl (by decide) (by first | rfl | omega) (by omega) ?_
    rw [a0]
    refine o_istore_n dX12_does_10 (by decide) ?_
    refine o_aload_n dX12_does_11 rfl ?_
    refine o_gf dX12_does_12 fl_X12_39 rfl (by decide) rfl ?_
    refine o_iconst dX12_does_15 ?_
    refine o_iload_n dX12_does_16 rfl ?_
    refine o_imul dX12_does_17 ?_
    refine o_iconst dX12_does_18 ?_
    refine o_iadd dX12_does_19 ?_
    refine o_ialdn (j := (4 * k + 2)) dX12_does_20 (by decide) rfl (by decide) (by first | rfl | omega) (by omega) ?_
    rw [a1]
    refine o_istore_n dX12_does_21 (by decide) ?_
    refine o_aload_n dX12_does_22 rfl ?_
    refine o_gf dX12_does_23 fl_X12_39 rfl (by decide) rfl ?_
    refine o_iconst dX12_does_26 ?_
    refine o_iload_n dX12_does_27 rfl ?_
    refine o_imul dX12_does_28 ?_
    refine o_ialdn (j := (4 * k)) dX12_does_29 (by decide) rfl (by decide) (by first | rfl | omega) (by omega) ?_
    rw [hK]
    refine o_lookup (off := 78) (tgt := 108) dX12_does_30 (by decide) (by decide) (by decide) ?_
    refine o_aload_n dX12_does_108 rfl ?_
    refine o_iload_n dX12_does_109 rfl ?_
    refine o_iload_n dX12_does_110 rfl ?_
    refine o_aload_n dX12_does_111 rfl ?_
    refine o_gf dX12_does_112 fl_X12_39 rfl (by decide) rfl ?_
    refine o_iconst dX12_does_115 ?_
    refine o_iload_n dX12_does_116 rfl ?_
    refine o_imul dX12_does_117 ?_
    refine o_iconst dX12_does_118 ?_
    refine o_iadd dX12_does_119 ?_
    refine o_ialdn (j := (4 * k + 3)) dX12_does_120 (by decide) rfl (by decide) (by first | rfl | omega) (by omega) ?_
    rw [a2]
    refine o_cVm _ (ct_X12_doLease hl (d + 1) g M hsr hwf.1 (N.getD 0 0) r0 (N.getD 1 0) r1 (N.getD 2 0) r2) dX12_does_121 ml_X12_106 yw_X12_doLease rfl (by decide) (by omega) (by decide) rfl rfl rfl (Nat.le_of_ble_eq_true rfl) (fun g_121 q_121 => ?_)
    refine o_istore dX12_does_124 (by decide) ?_
    refine o_ldcS (num := 32) dX12_does_126 (show (RX12, 235, "iasu", 32) ∈ o_str by decide) ?_
    refine o_ret1 dX12_does_128 (Or.inr ⟨_, rfl⟩) ?_
    exact ⟨rfl, rfl, _, rfl, q_121⟩
  · have hK : g 200 (4 * k) = 114 := hA1
    have hlen : N.length = 2 := hc2
    have a0 : g 200 (4 * k + 1) = N.getD 0 0 := by have := hA2 0 (by show 0 < N.length; omega); rw [show 4 * k + 1 + 0 = 4 * k + 1 by omega] at this; exact this
    have b0 : 0 ≤ N.getD 0 0 ∧ N.getD 0 0 ≤ 999 := hc3 0 (by show 0 < N.length; omega)
    have r0 : o_R (N.getD 0 0) := ⟨by omega, by omega⟩
    have a1 : g 200 (4 * k + 2) = N.getD 1 0 := by have := hA2 1 (by show 1 < N.length; omega); rw [show 4 * k + 1 + 1 = 4 * k + 2 by omega] at this; exact this
    have b1 : 0 ≤ N.getD 1 0 ∧ N.getD 1 0 ≤ 999 := hc3 1 (by show 1 < N.length; omega)
    have r1 : o_R (N.getD 1 0) := ⟨by omega, by omega⟩
    refine o_aload_n dX12_does_0 rfl ?_
    refine o_gf dX12_does_1 fl_X12_39 rfl (by decide) rfl ?_
    refine o_iconst dX12_does_4 ?_
    refine o_iload_n dX12_does_5 rfl ?_
    refine o_imul dX12_does_6 ?_
    refine o_iconst dX12_does_7 ?_
    refine o_iadd dX12_does_8 ?_
    refine o_ialdn (j := (4 * k + 1)) dX12_does_9 (by decide) rfl (by decide) (by first | rfl | omega) (by omega) ?_
    rw [a0]
    refine o_istore_n dX12_does_10 (by decide) ?_
    refine o_aload_n dX12_does_11 rfl ?_
    refine o_gf dX12_does_12 fl_X12_39 rfl (by decide) rfl ?_
    refine o_iconst dX12_does_15 ?_
    refine o_iload_n dX12_does_16 rfl ?_
    refine o_imul dX12_does_17 ?_
    refine o_iconst dX12_does_18 ?_
    refine o_iadd dX12_does_19 ?_
    refine o_ialdn (j := (4 * k + 2)) dX12_does_20 (by decide) rfl (by decide) (by first | rfl | omega) (by omega) ?_
    rw [a1]
    refine o_istore_n dX12_does_21 (by decide) ?_
    refine o_aload_n dX12_does_22 rfl ?_
    refine o_gf dX12_does_23 fl_X12_39 rfl (by decide) rfl ?_
    refine o_iconst dX12_does_26 ?_
    refine o_iload_n dX12_does_27 rfl ?_
    refine o_imul dX12_does_28 ?_
    refine o_ialdn (j := (4 * k)) dX12_does_29 (by decide) rfl (by decide) (by first | rfl | omega) (by omega) ?_
    rw [hK]
    refine o_lookup (off := 99) (tgt := 129) dX12_does_30 (by decide) (by decide) (by decide) ?_
    refine o_aload_n dX12_does_129 rfl ?_
    refine o_iload_n dX12_does_130 rfl ?_
    refine o_iload_n dX12_does_131 rfl ?_
    refine o_cVm _ (ct_X12_doRequestRenewal hl (d + 2) g M hsr hwf.1 (N.getD 0 0) r0 (N.getD 1 0) r1) dX12_does_132 ml_X12_110 yw_X12_doRequestRenewal rfl (by decide) (by omega) (by decide) rfl rfl rfl (Nat.le_of_ble_eq_true rfl) (fun g_132 q_132 => ?_)
    refine o_istore dX12_does_135 (by decide) ?_
    refine o_ldcS (num := 33) dX12_does_137 (show (RX12, 237, "ians", 33) ∈ o_str by decide) ?_
    refine o_ret1 dX12_does_139 (Or.inr ⟨_, rfl⟩) ?_
    exact ⟨rfl, rfl, _, rfl, q_132⟩
  · have hK : g 200 (4 * k) = 100 := hA1
    have hlen : N.length = 1 := hc2
    have a0 : g 200 (4 * k + 1) = N.getD 0 0 := by have := hA2 0 (by show 0 < N.length; omega); rw [show 4 * k + 1 + 0 = 4 * k + 1 by omega] at this; exact this
    have b0 : 0 ≤ N.getD 0 0 ∧ N.getD 0 0 ≤ 999 := hc3 0 (by show 0 < N.length; omega)
    have r0 : o_R (N.getD 0 0) := ⟨by omega, by omega⟩
    refine o_aload_n dX12_does_0 rfl ?_
    refine o_gf dX12_does_1 fl_X12_39 rfl (by decide) rfl ?_
    refine o_iconst dX12_does_4 ?_
    refine o_iload_n dX12_does_5 rfl ?_
    refine o_imul dX12_does_6 ?_
    refine o_iconst dX12_does_7 ?_
    refine o_iadd dX12_does_8 ?_
    refine o_ialdn (j := (4 * k + 1)) dX12_does_9 (by decide) rfl (by decide) (by first | rfl | omega) (by omega) ?_
    rw [a0]
    refine o_istore_n dX12_does_10 (by decide) ?_
    refine o_aload_n dX12_does_11 rfl ?_
    refine o_gf dX12_does_12 fl_X12_39 rfl (by decide) rfl ?_
    refine o_iconst dX12_does_15 ?_
    refine o_iload_n dX12_does_16 rfl ?_
    refine o_imul dX12_does_17 ?_
    refine o_iconst dX12_does_18 ?_
    refine o_iadd dX12_does_19 ?_
    refine o_ialdn (j := (4 * k + 2)) dX12_does_20 (by decide) rfl (by decide) (by first | rfl | omega) (by omega) ?_
    refine o_istore_n dX12_does_21 (by decide) ?_
    refine o_aload_n dX12_does_22 rfl ?_
    refine o_gf dX12_does_23 fl_X12_39 rfl (by decide) rfl ?_
    refine o_iconst dX12_does_26 ?_
    refine o_iload_n dX12_does_27 rfl ?_
    refine o_imul dX12_does_28 ?_
    refine o_ialdn (j := (4 * k)) dX12_does_29 (by decide) rfl (by decide) (by first | rfl | omega) (by omega) ?_
    rw [hK]
    refine o_lookup (off := 110) (tgt := 140) dX12_does_30 (by decide) (by decide) (by decide) ?_
    refine o_aload_n dX12_does_140 rfl ?_
    refine o_iload_n dX12_does_141 rfl ?_
    refine o_cVm _ (ct_X12_doGiveUp hl (d + 2) g M hsr hwf.1 (N.getD 0 0) r0) dX12_does_142 ml_X12_117 yw_X12_doGiveUp rfl (by decide) (by omega) (by decide) rfl rfl rfl (Nat.le_of_ble_eq_true rfl) (fun g_142 q_142 => ?_)
    refine o_istore dX12_does_145 (by decide) ?_
    refine o_ldcS (num := 34) dX12_does_147 (show (RX12, 239, "in", 34) ∈ o_str by decide) ?_
    refine o_ret1 dX12_does_149 (Or.inr ⟨_, rfl⟩) ?_
    exact ⟨rfl, rfl, _, rfl, q_142⟩
  · have hK : g 200 (4 * k) = 119 := hA1
    have hlen : N.length = 1 := hc2
    have a0 : g 200 (4 * k + 1) = N.getD 0 0 := by have := hA2 0 (by show 0 < N.length; omega); rw [show 4 * k + 1 + 0 = 4 * k + 1 by omega] at this; exact this
    have b0 : 0 ≤ N.getD 0 0 ∧ N.getD 0 0 ≤ 999 := hc3 0 (by show 0 < N.length; omega)
    have r0 : o_R (N.getD 0 0) := ⟨by omega, by omega⟩
    refine o_aload_n dX12_does_0 rfl ?_
    refine o_gf dX12_does_1 fl_X12_39 rfl (by decide) rfl ?_
    refine o_iconst dX12_does_4 ?_
    refine o_iload_n dX12_does_5 rfl ?_
    refine o_imul dX12_does_6 ?_
    refine o_iconst dX12_does_7 ?_
    refine o_iadd dX12_does_8 ?_
    refine o_ialdn (j := (4 * k + 1)) dX12_does_9 (by decide) rfl (by decide) (by first | rfl | omega) (by omega) ?_
    rw [a0]
    refine o_istore_n dX12_does_10 (by decide) ?_
    refine o_aload_n dX12_does_11 rfl ?_
    refine o_gf dX12_does_12 fl_X12_39 rfl (by decide) rfl ?_
    refine o_iconst dX12_does_15 ?_
    refine o_iload_n dX12_does_16 rfl ?_
    refine o_imul dX12_does_17 ?_
    refine o_iconst dX12_does_18 ?_
    refine o_iadd dX12_does_19 ?_
    refine o_ialdn (j := (4 * k + 2)) dX12_does_20 (by decide) rfl (by decide) (by first | rfl | omega) (by omega) ?_
    refine o_istore_n dX12_does_21 (by decide) ?_
    refine o_aload_n dX12_does_22 rfl ?_
    refine o_gf dX12_does_23 fl_X12_39 rfl (by decide) rfl ?_
    refine o_iconst dX12_does_26 ?_
    refine o_iload_n dX12_does_27 rfl ?_
    refine o_imul dX12_does_28 ?_
    refine o_ialdn (j := (4 * k)) dX12_does_29 (by decide) rfl (by decide) (by first | rfl | omega) (by omega) ?_
    rw [hK]
    refine o_lookup (off := 120) (tgt := 150) dX12_does_30 (by decide) (by decide) (by decide) ?_
    refine o_aload_n dX12_does_150 rfl ?_
    refine o_iload_n dX12_does_151 rfl ?_
    refine o_cVm _ (ct_X12_doPassHours hl d g M hsr hwf (N.getD 0 0) r0 hh) dX12_does_152 ml_X12_141 yw_X12_doPassHours rfl (by decide) (by omega) (by decide) rfl rfl rfl (Nat.le_of_ble_eq_true rfl) (fun g_152 q_152 => ?_)
    refine o_istore dX12_does_155 (by decide) ?_
    refine o_ldcS (num := 35) dX12_does_157 (show (RX12, 240, "a", 35) ∈ o_str by decide) ?_
    refine o_ret1 dX12_does_159 (Or.inr ⟨_, rfl⟩) ?_
    exact ⟨rfl, rfl, _, rfl, q_152⟩
