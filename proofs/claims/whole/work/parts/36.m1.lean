def o_cp (g : Nat → Nat → Int) (a b sp dp m : Nat) : Nat → Nat → Int := fun x j => if x = b ∧ dp ≤ j ∧ j < dp + m then g a (sp + (j - dp)) else g x j
theorem o_cpw (g : Nat → Nat → Int) (a b sp dp m : Nat) : o_w g b (va_cpy (g a) (g b) sp dp m) = o_cp g a b sp dp m := by
  funext x j
  by_cases q : x = b
  · subst q
    rw [o_w_s]
    unfold o_cp
    by_cases c : dp ≤ j ∧ j < dp + m
    · rw [pk_cpy_in c.1 c.2, if_pos ⟨rfl, c.1, c.2⟩]
    · rw [pk_cpy_out (by omega), if_neg (fun z => c z.2)]
  · rw [o_w_n g _ q]
    unfold o_cp
    rw [if_neg (fun z => q z.1)]
theorem o_cp_n {g : Nat → Nat → Int} {a b sp dp m x : Nat} (h : x ≠ b) : o_cp g a b sp dp m x = g x := by funext j; unfold o_cp; rw [if_neg (fun z => h z.1)]
section OCP
variable {l : Launch} {M : o_M} {d : Nat} {al : Nat → Prop} {post : o_P} {pc : Nat} {ls : List (Nat × Value)} {st : List Value} {n : Nat} {h : Nat → o_C} {mc ms : Nat} {g : Nat → Nat → Int}
theorem o_cpE {index a b len0 len1 sp dp m0 : Nat} {isp idp im : Int} (hd : decode M.2.1 pc = .ok (.invokestatic index, 3)) (hw : Cond.methodLink M.1 index arraycopyName ∈ o_gW) (ha : a < n) (hb : b < n) (hh0 : o_mem g a = .inl (0, len0, .inl (fun j => o_I (g a j)))) (hh1 : o_mem g b = .inl (0, len1, .inl (fun j => o_I (g b j)))) (hl0 : len0 ≤ 2147483647) (hl1 : len1 ≤ 2147483647) (e1 : isp = (sp : Int)) (e2 : idp = (dp : Int)) (e3 : im = (m0 : Int)) (h3 : sp + m0 ≤ len0) (h4 : dp + m0 ≤ len1) (hcat : (st.map fun v => v.category).sum ≤ 20) (hc : ∀ f' : Nat → Int, (Sum.inl (0, len1, .inl (fun j => o_I (f' j))) : o_C) = o_FF b f' (g 190 9)) (h9 : b ≠ 190) (k9 : ∀ g1, g1 = o_cp g a b sp dp m0 → o_V l M d al post (pc + 3) ls st n (o_mem g1) mc ms) : o_V l M d al post pc ls (.int (o_I im) :: .int (o_I idp) :: .ref b :: .int (o_I isp) :: .ref a :: st) n (o_mem g) mc ms := by
  subst e1 e2 e3
  refine o_copyi hd hw o_cpyS.1 o_cpyS.2.1 o_cpyS.2.2 ha hb hh0 hh1 hl0 hl1 (by omega) (by omega) (by omega) (by omega) (by omega) hcat (o_mw (f := va_cpy (g a) (g b) sp dp m0) (hc _) ?_) ?_
  · rw [o_w_n g _ (Ne.symm h9)]
  · rw [o_cpw]; exact k9 _ rfl
end OCP
theorem o_e_id {M : Nat → Nat → Int} {a j : Nat} {z : Int} (h : z = M a j) : o_e M a j z = M := by
  funext x k
  unfold o_e
  split
  · rename_i c; rw [c.1, c.2, h]
  · rfl
theorem o_e_cm {M : Nat → Nat → Int} {a b j k : Nat} {z w : Int} (h : a ≠ b) : o_e (o_e M a j z) b k w = o_e (o_e M b k w) a j z := by
  funext x y
  unfold o_e
  by_cases q : x = b
  · have q2 : ¬ (x = a ∧ y = j) := fun q2 => h (by rw [← q2.1, q])
    simp only [if_neg q2]
  · have q2 : ¬ (x = b ∧ y = k) := fun q2 => q q2.1
    simp only [if_neg q2]
theorem m_cut_cm (M : Nat → Nat → Int) (x : Nat) (r : Int) : o_e (o_e (m_cut M r) 5 x 0) 6 x 0 = m_cut (o_e (o_e M 5 x 0) 6 x 0) r := by
  by_cases c : r = -1
  · simp only [m_cut, if_pos c]
  · funext a j
    simp only [m_cut, if_neg c]
    unfold o_e
    by_cases h6 : a = 6
    · subst h6
      simp
    · by_cases h5 : a = 5
      · subst h5
        simp
      · simp [h5, h6]
theorem ml_X12_45 : Cond.methodLink RX12 45 arraycopyName ∈ o_gW := o_gT (i := 1612) (by decide +kernel) rfl
set_option maxRecDepth 100000 in
set_option maxHeartbeats 4000000 in
/-- pays(s, c) -/
theorem ct_X12_pays {l : Launch} (hl : l.stackTraces = false) (d : Nat) (g : Nat → Nat → Int) (M : Nat → Nat → Int) (hsr : o_sr (g 193) M) (hwk : o_wk M) (s : Nat) (hs : (s : Int) < M 0 0) (c : Int) : o_Ct l yX12_pays wX12_pays (d + 1) o_no [.ref 192, .int (o_I (s : Int)), .int (o_I c)] o_N (o_mem g) 0 0 (o_mt (none) (fun g' => o_sr (g' 193) (m_pay M s c) ∧ o_fr o_mc g g')) := by
  refine o_Ct.ofV hl mX12_pays (by decide +kernel) rfl rfl rfl (Nat.le_of_ble_eq_true rfl) ?_
  obtain ⟨⟨hr0, hr1, hr2, hr3, hr4, hr5, hr6⟩, hrs, hrl, hrq⟩ := id hsr
  obtain ⟨hws, hwl, hwq, hwo, hwle, hwrq, hwrd⟩ := id hwk
  obtain ⟨hw1, hw2, hw3⟩ := id hws
  obtain ⟨hw4, hw5, hw6, hw7, hw8⟩ := id hwl
  obtain ⟨hw9, hw10, hw11⟩ := id hwq
  refine o_aload_n dX12_pays_0 rfl ?_
  refine o_gf dX12_pays_1 fl_X12_9 rfl (by decide) rfl ?_
  refine o_bipush dX12_pays_4 (by decide) ?_
  refine o_iconst dX12_pays_6 ?_
  refine o_iload_n dX12_pays_7 rfl ?_
  refine o_imul dX12_pays_8 ?_
  refine o_iadd dX12_pays_9 ?_
  refine o_dup2 dX12_pays_10 rfl rfl ?_
  refine o_ialdn (j := (7 + 3 * s)) dX12_pays_11 (by decide) rfl (by decide) (by first | rfl | omega) (by omega) ?_
  refine o_iload_n dX12_pays_12 rfl ?_
  refine o_isub dX12_pays_13 ?_
  refine o_iaEn (j := (7 + 3 * s)) dX12_pays_14 rfl (by decide) (by decide) (by first | rfl | omega) (by omega) (fun _ => rfl) (by decide) (fun g_14 e_14 => ?_)
  have h_14 := sr_1' hsr hw2 hw5 e_14 (by omega) (show g 193 (7 + 3 * s) - c = M 1 s - c by have := (hrs s hs).1; omega)
  refine o_aload_n dX12_pays_15 rfl ?_
  refine o_gf dX12_pays_16 fl_X12_9 rfl (by decide) rfl ?_
  refine o_iconst dX12_pays_19 ?_
  refine o_dup2 dX12_pays_20 rfl rfl ?_
  refine o_ialdn (j := 5) dX12_pays_21 (by decide) rfl (by decide) (by first | rfl | omega) (by omega) ?_
  refine o_iload_n dX12_pays_22 rfl ?_
  refine o_iadd dX12_pays_23 ?_
  refine o_iaEn (j := 5) dX12_pays_24 rfl (by decide) (by decide) (by first | rfl | omega) (by omega) (fun _ => rfl) (by decide) (fun g_24 e_24 => ?_)
  have h_24 := sr_0_5' h_14 e_24 (show g_14 193 5 + c = M 0 5 + c by have t := h_14.1.2.2.2.2.2.1; have t2 : g_14 193 5 = M 0 5 := t; omega)
  refine o_ret0 dX12_pays_25 trivial ?_
  exact o_mt0 ⟨h_24, o_fr_e' (o_fr_e' o_fr_r e_14 (show o_mc _ from rfl)) e_24 (show o_mc _ from rfl)⟩
set_option maxRecDepth 100000 in
set_option maxHeartbeats 4000000 in
/-- requestFor(x) -/
theorem ct_X12_requestFor {l : Launch} (hl : l.stackTraces = false) (d : Nat) (g : Nat → Nat → Int) (M : Nat → Nat → Int) (hsr : o_sr (g 193) M) (hwk : o_wk M) (x : Nat) (hx : (x : Int) < 8) (r : Int) (hr9 : o_fst (fun i => M 9 i = x) (M 0 6).toNat r) : o_Ct l yX12_requestFor wX12_requestFor (d + 1) o_no [.ref 192, .int (o_I (x : Int))] o_N (o_mem g) 0 0 (o_is (some (.int (o_I r))) o_N (o_mem g)) := by
  refine o_Ct.ofV hl mX12_requestFor (by decide +kernel) rfl rfl rfl (Nat.le_of_ble_eq_true rfl) ?_
  obtain ⟨⟨hr0, hr1, hr2, hr3, hr4, hr5, hr6⟩, hrs, hrl, hrq⟩ := id hsr
  obtain ⟨hws, hwl, hwq, hwo, hwle, hwrq, hwrd⟩ := id hwk
  obtain ⟨hw1, hw2, hw3⟩ := id hws
  obtain ⟨hw4, hw5, hw6, hw7, hw8⟩ := id hwl
  obtain ⟨hw9, hw10, hw11⟩ := id hwq
  have hr : -1 ≤ r ∧ r < M 0 6 := by rcases hr9 with ⟨rfl, -⟩ | ⟨j, rfl, hj, -⟩ <;> omega
  have hps : ∀ i : Nat, (i : Int) < M 0 6 → (M 9 i = (x : Int) ↔ r = i) := by
    intro i hi
    rcases hr9 with ⟨rfl, h⟩ | ⟨j, rfl, hj, hj2, hj3⟩
    · exact ⟨fun q => absurd q (h i (by omega)), fun q => by omega⟩
    · exact ⟨fun q => by have := hwrd i j hi (by omega) (by omega); omega, fun q => (show j = i by omega) ▸ hj2⟩
  have key := o_lp (fun i => o_V l mX12_requestFor (d + 1) o_no (o_is (some (.int (o_I r))) o_N (o_mem g)) 4 [(0, .ref 192), (1, .int (o_I (x : Int))), (2, .int (o_I (if r ≠ -1 ∧ r < ((i : Nat) : Int) then r else -1))), (3, .int (o_I ((i : Nat) : Int)))] [] o_N (o_mem g) 0 0) (M 0 6).toNat (fun i hi ih => by
    refine o_iload_n dX12_requestFor_4 rfl ?_
    refine o_aload_n dX12_requestFor_5 rfl ?_
    refine o_gf dX12_requestFor_6 fl_X12_9 rfl (by decide) rfl ?_
    refine o_bipush dX12_requestFor_9 (by decide) ?_
    refine o_ialdn (j := 6) dX12_requestFor_11 (by decide) rfl (by decide) (by first | rfl | omega) (by omega) ?_
    refine o_icmp_ge (tgt := 42) dX12_requestFor_12 (by decide) ⟨by omega, by omega⟩ ⟨by omega, by omega⟩ (fun c_12 => ?_) (fun c_12 => ?_)
    · skip
      refine o_iload_n dX12_requestFor_42 rfl ?_
      refine o_ret1 dX12_requestFor_43 trivial ?_
      rw [show (if r ≠ -1 ∧ r < ((i : Nat) : Int) then r else -1) = r by split <;> omega]
      exact ⟨rfl, rfl, rfl⟩
    · skip
      have hi9 : (i : Int) < M 0 6 := by omega
      have hq9 := hw11 i hi9
      have hqi := (hrq i hi9).1
      refine o_aload_n dX12_requestFor_15 rfl ?_
      refine o_gf dX12_requestFor_16 fl_X12_9 rfl (by decide) rfl ?_
      refine o_bipush dX12_requestFor_19 (by decide) ?_
      refine o_iconst dX12_requestFor_21 ?_
      refine o_iload_n dX12_requestFor_22 rfl ?_
      refine o_imul dX12_requestFor_23 ?_
      refine o_iadd dX12_requestFor_24 ?_
      refine o_ialdn (j := (65 + 2 * i)) dX12_requestFor_25 (by decide) rfl (by decide) (by first | rfl | omega) (by omega) ?_
      refine o_iload_n dX12_requestFor_26 rfl ?_
      refine o_icmp_ne (tgt := 34) dX12_requestFor_27 (by decide) ⟨by omega, by omega⟩ ⟨by omega, by omega⟩ (fun c_27 => ?_) (fun c_27 => ?_)
      · skip
        refine o_iload_n dX12_requestFor_34 rfl ?_
        refine o_istore_n dX12_requestFor_35 (by decide) ?_
        refine o_iinc dX12_requestFor_36 rfl (by decide) ?_
        refine o_goto (tgt := 4) dX12_requestFor_39 (by decide) ?_
        have hri : r ≠ i := fun q => c_27 (by have := (hps i hi9).mpr q; omega)
        exact o_loc [(0, .ref 192), (1, .int (o_I (x : Int))), (2, .int (o_I (if r ≠ -1 ∧ r < (((i + 1) : Nat) : Int) then r else -1))), (3, .int (o_I (((i + 1) : Nat) : Int)))] (by rw [show (if r ≠ -1 ∧ r < (((i + 1) : Nat) : Int) then r else -1) = (if r ≠ -1 ∧ r < ((i : Nat) : Int) then r else -1) by split <;> split <;> omega]; rfl) (ih (by omega))
      · skip
        refine o_iload_n dX12_requestFor_30 rfl ?_
        refine o_goto (tgt := 35) dX12_requestFor_31 (by decide) ?_
        refine o_istore_n dX12_requestFor_35 (by decide) ?_
        refine o_iinc dX12_requestFor_36 rfl (by decide) ?_
        refine o_goto (tgt := 4) dX12_requestFor_39 (by decide) ?_
        have hri : r = i := (hps i hi9).mp (by omega)
        exact o_loc [(0, .ref 192), (1, .int (o_I (x : Int))), (2, .int (o_I (if r ≠ -1 ∧ r < (((i + 1) : Nat) : Int) then r else -1))), (3, .int (o_I (((i + 1) : Nat) : Int)))] (by rw [show (if r ≠ -1 ∧ r < (((i + 1) : Nat) : Int) then r else -1) = (i : Int) by split <;> omega]; rfl) (ih (by omega)))
  refine o_iconst dX12_requestFor_0 ?_
  refine o_istore_n dX12_requestFor_1 (by decide) ?_
  refine o_iconst dX12_requestFor_2 ?_
  refine o_istore_n dX12_requestFor_3 (by decide) ?_
  exact o_loc _ (by rw [show (if r ≠ -1 ∧ r < ((0 : Nat) : Int) then r else -1) = -1 by split <;> omega]; rfl) (key 0 (Nat.zero_le _))
set_option maxRecDepth 100000 in
set_option maxHeartbeats 4000000 in
/-- needed() -/
theorem ct_X12_needed {l : Launch} (hl : l.stackTraces = false) (d : Nat) (g : Nat → Nat → Int) (M : Nat → Nat → Int) (hsr : o_sr (g 193) M) (hwk : o_wk M) : o_Ct l yX12_needed wX12_needed (d + 3) o_no [.ref 192] o_N (o_mem g) 0 0 (o_is (some (.int (o_I (d_all M)))) o_N (o_mem g)) := by
  refine o_Ct.ofV hl mX12_needed (by decide +kernel) rfl rfl rfl (Nat.le_of_ble_eq_true rfl) ?_
  obtain ⟨⟨hr0, hr1, hr2, hr3, hr4, hr5, hr6⟩, hrs, hrl, hrq⟩ := id hsr
  obtain ⟨hws, hwl, hwq, hwo, hwle, hwrq, hwrd⟩ := id hwk
  obtain ⟨hw1, hw2, hw3⟩ := id hws
  obtain ⟨hw4, hw5, hw6, hw7, hw8⟩ := id hwl
  obtain ⟨hw9, hw10, hw11⟩ := id hwq
  have key := o_lp (fun i => o_V l mX12_needed (d + 3) o_no (o_is (some (.int (o_I (d_all M)))) o_N (o_mem g)) 4 [(0, .ref 192), (1, .int (o_I (o_sm (fun i => if 0 < M 5 i then M 4 i else 0) i))), (2, .int (o_I ((i : Nat) : Int)))] [] o_N (o_mem g) 0 0) (M 0 1).toNat (fun i hi ih => by
    refine o_iload_n dX12_needed_4 rfl ?_
    refine o_aload_n dX12_needed_5 rfl ?_
    refine o_gf dX12_needed_6 fl_X12_9 rfl (by decide) rfl ?_
    refine o_iconst dX12_needed_9 ?_
    refine o_ialdn (j := 1) dX12_needed_10 (by decide) rfl (by decide) (by first | rfl | omega) (by omega) ?_
    refine o_icmp_ge (tgt := 41) dX12_needed_11 (by decide) ⟨by omega, by omega⟩ ⟨by omega, by omega⟩ (fun c_11 => ?_) (fun c_11 => ?_)
    · skip
      refine o_iload_n dX12_needed_41 rfl ?_
      refine o_ret1 dX12_needed_42 trivial ?_
      rw [show i = (M 0 1).toNat by omega]
      exact ⟨rfl, rfl, rfl⟩
    · skip
      have hi9 : (i : Int) < M 0 1 := by omega
      have hb8 := hw8 i hi9
      have hl8 := hrl i hi9
      refine o_iload_n dX12_needed_14 rfl ?_
      refine o_aload_n dX12_needed_15 rfl ?_
      refine o_iload_n dX12_needed_16 rfl ?_
      refine o_cV _ (ct_X12_isOut hl d g M hsr hwk i hi9) dX12_needed_17 ml_X12_96 yw_X12_isOut rfl (by decide) (by omega) (by decide) rfl rfl rfl (Nat.le_of_ble_eq_true rfl) ?_
      refine o_ifb_eq (tgt := 32) dX12_needed_20 (by decide) (fun c_20 => ?_) (fun c_20 => ?_)
      · skip
        refine o_iconst dX12_needed_32 ?_
        refine o_iadd dX12_needed_33 ?_
        refine o_istore_n dX12_needed_34 (by decide) ?_
        refine o_iinc dX12_needed_35 rfl (by decide) ?_
        refine o_goto (tgt := 4) dX12_needed_38 (by decide) ?_
        exact o_loc [(0, .ref 192), (1, .int (o_I (o_sm (fun i => if 0 < M 5 i then M 4 i else 0) (i + 1)))), (2, .int (o_I (((i + 1) : Nat) : Int)))] (by simp only [o_sm]; rw [if_neg c_20]; rfl) (ih (by omega))
      · skip
        refine o_aload_n dX12_needed_23 rfl ?_
        refine o_iload_n dX12_needed_24 rfl ?_
        refine o_iconst dX12_needed_25 ?_
        refine o_cV _ (ct_X12_of hl (d + 1) g i 0 (by omega) (by decide)) dX12_needed_26 ml_X12_58 yw_X12_of rfl (by decide) (by omega) (by decide) rfl rfl rfl (Nat.le_of_ble_eq_true rfl) ?_
        refine o_goto (tgt := 33) dX12_needed_29 (by decide) ?_
        refine o_iadd dX12_needed_33 ?_
        refine o_istore_n dX12_needed_34 (by decide) ?_
        refine o_iinc dX12_needed_35 rfl (by decide) ?_
        refine o_goto (tgt := 4) dX12_needed_38 (by decide) ?_
        exact o_loc [(0, .ref 192), (1, .int (o_I (o_sm (fun i => if 0 < M 5 i then M 4 i else 0) (i + 1)))), (2, .int (o_I (((i + 1) : Nat) : Int)))] (by simp only [o_sm]; rw [if_pos c_20, ← hl8.1]; rfl) (ih (by omega)))
  refine o_iconst dX12_needed_0 ?_
  refine o_istore_n dX12_needed_1 (by decide) ?_
  refine o_iconst dX12_needed_2 ?_
  refine o_istore_n dX12_needed_3 (by decide) ?_
  exact o_loc _ rfl (key 0 (Nat.zero_le _))
set_option maxRecDepth 100000 in
set_option maxHeartbeats 4000000 in
/-- leased() -/
theorem ct_X12_leased {l : Launch} (hl : l.stackTraces = false) (d : Nat) (g : Nat → Nat → Int) (M : Nat → Nat → Int) (hsr : o_sr (g 193) M) (hwk : o_wk M) : o_Ct l yX12_leased wX12_leased (d + 3) o_no [.ref 192] o_N (o_mem g) 0 0 (o_is (some (.int (o_I (o_sm (fun i => o_b (0 < M 5 i)) (M 0 1).toNat)))) o_N (o_mem g)) := by
  refine o_Ct.ofV hl mX12_leased (by decide +kernel) rfl rfl rfl (Nat.le_of_ble_eq_true rfl) ?_
  obtain ⟨⟨hr0, hr1, hr2, hr3, hr4, hr5, hr6⟩, hrs, hrl, hrq⟩ := id hsr
  obtain ⟨hws, hwl, hwq, hwo, hwle, hwrq, hwrd⟩ := id hwk
  obtain ⟨hw1, hw2, hw3⟩ := id hws
  obtain ⟨hw4, hw5, hw6, hw7, hw8⟩ := id hwl
  obtain ⟨hw9, hw10, hw11⟩ := id hwq
  have key := o_lp (fun i => o_V l mX12_leased (d + 3) o_no (o_is (some (.int (o_I (o_sm (fun i => o_b (0 < M 5 i)) (M 0 1).toNat)))) o_N (o_mem g)) 4 [(0, .ref 192), (1, .int (o_I (o_sm (fun i => o_b (0 < M 5 i)) i))), (2, .int (o_I ((i : Nat) : Int)))] [] o_N (o_mem g) 0 0) (M 0 1).toNat (fun i hi ih => by
    refine o_iload_n dX12_leased_4 rfl ?_
    refine o_aload_n dX12_leased_5 rfl ?_
    refine o_gf dX12_leased_6 fl_X12_9 rfl (by decide) rfl ?_
    refine o_iconst dX12_leased_9 ?_
    refine o_ialdn (j := 1) dX12_leased_10 (by decide) rfl (by decide) (by first | rfl | omega) (by omega) ?_
    refine o_icmp_ge (tgt := 36) dX12_leased_11 (by decide) ⟨by omega, by omega⟩ ⟨by omega, by omega⟩ (fun c_11 => ?_) (fun c_11 => ?_)
    · skip
      refine o_iload_n dX12_leased_36 rfl ?_
      refine o_ret1 dX12_leased_37 trivial ?_
      rw [show i = (M 0 1).toNat by omega]
      exact ⟨rfl, rfl, rfl⟩
    · skip
      have hi9 : (i : Int) < M 0 1 := by omega
      have hb8 := hw8 i hi9
      have hl8 := hrl i hi9
      refine o_iload_n dX12_leased_14 rfl ?_
      refine o_aload_n dX12_leased_15 rfl ?_
      refine o_iload_n dX12_leased_16 rfl ?_
      refine o_cV _ (ct_X12_isOut hl d g M hsr hwk i hi9) dX12_leased_17 ml_X12_96 yw_X12_isOut rfl (by decide) (by omega) (by decide) rfl rfl rfl (Nat.le_of_ble_eq_true rfl) ?_
      refine o_ifb_eq (tgt := 27) dX12_leased_20 (by decide) (fun c_20 => ?_) (fun c_20 => ?_)
      · skip
        refine o_iconst dX12_leased_27 ?_
        refine o_iadd dX12_leased_28 ?_
        refine o_istore_n dX12_leased_29 (by decide) ?_
        refine o_iinc dX12_leased_30 rfl (by decide) ?_
        refine o_goto (tgt := 4) dX12_leased_33 (by decide) ?_
        exact o_loc [(0, .ref 192), (1, .int (o_I (o_sm (fun i => o_b (0 < M 5 i)) (i + 1)))), (2, .int (o_I (((i + 1) : Nat) : Int)))] (by simp only [o_sm]; rw [o_b0 c_20]; rfl) (ih (by omega))
      · skip
        refine o_iconst dX12_leased_23 ?_
        refine o_goto (tgt := 28) dX12_leased_24 (by decide) ?_
        refine o_iadd dX12_leased_28 ?_
        refine o_istore_n dX12_leased_29 (by decide) ?_
        refine o_iinc dX12_leased_30 rfl (by decide) ?_
        refine o_goto (tgt := 4) dX12_leased_33 (by decide) ?_
        exact o_loc [(0, .ref 192), (1, .int (o_I (o_sm (fun i => o_b (0 < M 5 i)) (i + 1)))), (2, .int (o_I (((i + 1) : Nat) : Int)))] (by simp only [o_sm]; rw [o_b1 c_20]; rfl) (ih (by omega)))
  refine o_iconst dX12_leased_0 ?_
  refine o_istore_n dX12_leased_1 (by decide) ?_
  refine o_iconst dX12_leased_2 ?_
  refine o_istore_n dX12_leased_3 (by decide) ?_
  exact o_loc _ rfl (key 0 (Nat.zero_le _))
set_option maxRecDepth 100000 in
set_option maxHeartbeats 4000000 in
/-- wants(s) -/
theorem ct_X12_wants {l : Launch} (hl : l.stackTraces = false) (d : Nat) (g : Nat → Nat → Int) (M : Nat → Nat → Int) (hsr : o_sr (g 193) M) (hwk : o_wk M) (s : Nat) (hs : (s : Int) < M 0 0) : o_Ct l yX12_wants wX12_wants (d + 3) o_no [.ref 192, .int (o_I (s : Int))] o_N (o_mem g) 0 0 (o_is (some (.int (o_I (d_of M s)))) o_N (o_mem g)) := by
  refine o_Ct.ofV hl mX12_wants (by decide +kernel) rfl rfl rfl (Nat.le_of_ble_eq_true rfl) ?_
  obtain ⟨⟨hr0, hr1, hr2, hr3, hr4, hr5, hr6⟩, hrs, hrl, hrq⟩ := id hsr
  obtain ⟨hws, hwl, hwq, hwo, hwle, hwrq, hwrd⟩ := id hwk
  obtain ⟨hw1, hw2, hw3⟩ := id hws
  obtain ⟨hw4, hw5, hw6, hw7, hw8⟩ := id hwl
  obtain ⟨hw9, hw10, hw11⟩ := id hwq
  have key := o_lp (fun i => o_V l mX12_wants (d + 3) o_no (o_is (some (.int (o_I (d_of M s)))) o_N (o_mem g)) 4 [(0, .ref 192), (1, .int (o_I (s : Int))), (2, .int (o_I (o_sm (fun i => if M 5 i = (s : Int) + 1 then M 4 i else 0) i))), (3, .int (o_I ((i : Nat) : Int)))] [] o_N (o_mem g) 0 0) (M 0 1).toNat (fun i hi ih => by
    refine o_iload_n dX12_wants_4 rfl ?_
    refine o_aload_n dX12_wants_5 rfl ?_
    refine o_gf dX12_wants_6 fl_X12_9 rfl (by decide) rfl ?_
    refine o_iconst dX12_wants_9 ?_
    refine o_ialdn (j := 1) dX12_wants_10 (by decide) rfl (by decide) (by first | rfl | omega) (by omega) ?_
    refine o_icmp_ge (tgt := 45) dX12_wants_11 (by decide) ⟨by omega, by omega⟩ ⟨by omega, by omega⟩ (fun c_11 => ?_) (fun c_11 => ?_)
    · skip
      refine o_iload_n dX12_wants_45 rfl ?_
      refine o_ret1 dX12_wants_46 trivial ?_
      rw [show i = (M 0 1).toNat by omega]
      exact ⟨rfl, rfl, rfl⟩
    · skip
      have hi9 : (i : Int) < M 0 1 := by omega
      have hb8 := hw8 i hi9
      have hl8 := hrl i hi9
      refine o_iload_n dX12_wants_14 rfl ?_
      refine o_aload_n dX12_wants_15 rfl ?_
      refine o_iload_n dX12_wants_16 rfl ?_
      refine o_iconst dX12_wants_17 ?_
      refine o_cV _ (ct_X12_of hl (d + 1) g i 1 (by omega) (by decide)) dX12_wants_18 ml_X12_58 yw_X12_of rfl (by decide) (by omega) (by decide) rfl rfl rfl (Nat.le_of_ble_eq_true rfl) ?_
      refine o_iload_n dX12_wants_21 rfl ?_
      refine o_iconst dX12_wants_22 ?_
      refine o_iadd dX12_wants_23 ?_
      refine o_icmp_ne (tgt := 36) dX12_wants_24 (by decide) ⟨by omega, by omega⟩ ⟨by omega, by omega⟩ (fun c_24 => ?_) (fun c_24 => ?_)
      · skip
        refine o_iconst dX12_wants_36 ?_
        refine o_iadd dX12_wants_37 ?_
        refine o_istore_n dX12_wants_38 (by decide) ?_
        refine o_iinc dX12_wants_39 rfl (by decide) ?_
        refine o_goto (tgt := 4) dX12_wants_42 (by decide) ?_
        exact o_loc [(0, .ref 192), (1, .int (o_I (s : Int))), (2, .int (o_I (o_sm (fun i => if M 5 i = (s : Int) + 1 then M 4 i else 0) (i + 1)))), (3, .int (o_I (((i + 1) : Nat) : Int)))] (by simp only [o_sm]; rw [if_neg (by omega)]; rfl) (ih (by omega))
      · skip
        refine o_aload_n dX12_wants_27 rfl ?_
        refine o_iload_n dX12_wants_28 rfl ?_
        refine o_iconst dX12_wants_29 ?_
        refine o_cV _ (ct_X12_of hl (d + 1) g i 0 (by omega) (by decide)) dX12_wants_30 ml_X12_58 yw_X12_of rfl (by decide) (by omega) (by decide) rfl rfl rfl (Nat.le_of_ble_eq_true rfl) ?_
        refine o_goto (tgt := 37) dX12_wants_33 (by decide) ?_
        refine o_iadd dX12_wants_37 ?_
        refine o_istore_n dX12_wants_38 (by decide) ?_
        refine o_iinc dX12_wants_39 rfl (by decide) ?_
        refine o_goto (tgt := 4) dX12_wants_42 (by decide) ?_
        exact o_loc [(0, .ref 192), (1, .int (o_I (s : Int))), (2, .int (o_I (o_sm (fun i => if M 5 i = (s : Int) + 1 then M 4 i else 0) (i + 1)))), (3, .int (o_I (((i + 1) : Nat) : Int)))] (by simp only [o_sm]; rw [if_pos (by omega), ← hl8.1]; rfl) (ih (by omega)))
  refine o_iconst dX12_wants_0 ?_
  refine o_istore_n dX12_wants_1 (by decide) ?_
  refine o_iconst dX12_wants_2 ?_
  refine o_istore_n dX12_wants_3 (by decide) ?_
  exact o_loc _ rfl (key 0 (Nat.zero_le _))
set_option maxRecDepth 100000 in
set_option maxHeartbeats 4000000 in
/-- lampsOf(s, false) -/
theorem ct_lampsOf0 {l : Launch} (hl : l.stackTraces = false) (d : Nat) (g : Nat → Nat → Int) (M : Nat → Nat → Int) (hsr : o_sr (g 193) M) (hwk : o_wk M) (s : Nat) (hs : (s : Int) < M 0 0) : o_Ct l yX12_lampsOf wX12_lampsOf (d + 3) o_no [.ref 192, .int (o_I (s : Int)), .int (o_I 0)] o_N (o_mem g) 0 0 (o_is (some (.int (o_I (m_cnt M s)))) o_N (o_mem g)) := by
  refine o_Ct.ofV hl mX12_lampsOf (by decide +kernel) rfl rfl rfl (Nat.le_of_ble_eq_true rfl) ?_
  obtain ⟨⟨hr0, hr1, hr2, hr3, hr4, hr5, hr6⟩, hrs, hrl, hrq⟩ := id hsr
  obtain ⟨hws, hwl, hwq, hwo, hwle, hwrq, hwrd⟩ := id hwk
  obtain ⟨hw1, hw2, hw3⟩ := id hws
  obtain ⟨hw4, hw5, hw6, hw7, hw8⟩ := id hwl
  obtain ⟨hw9, hw10, hw11⟩ := id hwq
  have key := o_lp (fun i => o_V l mX12_lampsOf (d + 3) o_no (o_is (some (.int (o_I (m_cnt M s)))) o_N (o_mem g)) 5 [(0, .ref 192), (1, .int (o_I (s : Int))), (2, .int (o_I 0)), (3, .int (o_I (o_sm (fun i => o_b (M 5 i = (s : Int) + 1)) i))), (4, .int (o_I ((i : Nat) : Int)))] [] o_N (o_mem g) 0 0) (M 0 1).toNat (fun i hi ih => by
    refine o_iload dX12_lampsOf_5 rfl ?_
    refine o_aload_n dX12_lampsOf_7 rfl ?_
    refine o_gf dX12_lampsOf_8 fl_X12_9 rfl (by decide) rfl ?_
    refine o_iconst dX12_lampsOf_11 ?_
    refine o_ialdn (j := 1) dX12_lampsOf_12 (by decide) rfl (by decide) (by first | rfl | omega) (by omega) ?_
    refine o_icmp_ge (tgt := 58) dX12_lampsOf_13 (by decide) ⟨by omega, by omega⟩ ⟨by omega, by omega⟩ (fun c_13 => ?_) (fun c_13 => ?_)
    · skip
      refine o_iload_n dX12_lampsOf_58 rfl ?_
      refine o_ret1 dX12_lampsOf_59 trivial ?_
      rw [show i = (M 0 1).toNat by omega]
      exact ⟨rfl, rfl, rfl⟩
    · skip
      have hi9 : (i : Int) < M 0 1 := by omega
      have hb8 := hw8 i hi9
      have hl8 := hrl i hi9
      refine o_iload_n dX12_lampsOf_16 rfl ?_
      refine o_aload_n dX12_lampsOf_17 rfl ?_
      refine o_iload dX12_lampsOf_18 rfl ?_
      refine o_iconst dX12_lampsOf_20 ?_
      refine o_cV _ (ct_X12_of hl (d + 1) g i 1 (by omega) (by decide)) dX12_lampsOf_21 ml_X12_58 yw_X12_of rfl (by decide) (by omega) (by decide) rfl rfl rfl (Nat.le_of_ble_eq_true rfl) ?_
      refine o_iload_n dX12_lampsOf_24 rfl ?_
      refine o_iconst dX12_lampsOf_25 ?_
      refine o_iadd dX12_lampsOf_26 ?_
      refine o_icmp_ne (tgt := 49) dX12_lampsOf_27 (by decide) ⟨by omega, by omega⟩ ⟨by omega, by omega⟩ (fun c_27 => ?_) (fun c_27 => ?_)
      · skip
        refine o_iconst dX12_lampsOf_49 ?_
        refine o_iadd dX12_lampsOf_50 ?_
        refine o_istore_n dX12_lampsOf_51 (by decide) ?_
        refine o_iinc dX12_lampsOf_52 rfl (by decide) ?_
        refine o_goto (tgt := 5) dX12_lampsOf_55 (by decide) ?_
        exact o_loc [(0, .ref 192), (1, .int (o_I (s : Int))), (2, .int (o_I 0)), (3, .int (o_I (o_sm (fun i => o_b (M 5 i = (s : Int) + 1)) (i + 1)))), (4, .int (o_I (((i + 1) : Nat) : Int)))] (by simp only [o_sm]; rw [o_b0 (by omega)]; rfl) (ih (by omega))
      · skip
        refine o_iload_n dX12_lampsOf_30 rfl ?_
        refine o_if_eq (tgt := 45) dX12_lampsOf_31 (by decide) ⟨by omega, by omega⟩ (fun _ => ?_) (fun c => absurd rfl c)
        refine o_iconst dX12_lampsOf_45 ?_
        refine o_goto (tgt := 50) dX12_lampsOf_46 (by decide) ?_
        refine o_iadd dX12_lampsOf_50 ?_
        refine o_istore_n dX12_lampsOf_51 (by decide) ?_
        refine o_iinc dX12_lampsOf_52 rfl (by decide) ?_
        refine o_goto (tgt := 5) dX12_lampsOf_55 (by decide) ?_
        exact o_loc [(0, .ref 192), (1, .int (o_I (s : Int))), (2, .int (o_I 0)), (3, .int (o_I (o_sm (fun i => o_b (M 5 i = (s : Int) + 1)) (i + 1)))), (4, .int (o_I (((i + 1) : Nat) : Int)))] (by simp only [o_sm]; rw [o_b1 (by omega)]; rfl) (ih (by omega)))
  refine o_iconst dX12_lampsOf_0 ?_
  refine o_istore_n dX12_lampsOf_1 (by decide) ?_
  refine o_iconst dX12_lampsOf_2 ?_
  refine o_istore dX12_lampsOf_3 (by decide) ?_
  exact o_loc _ rfl (key 0 (Nat.zero_le _))
set_option maxRecDepth 100000 in
set_option maxHeartbeats 4000000 in
/-- lampsOf(s, true) -/
theorem ct_lampsOf1 {l : Launch} (hl : l.stackTraces = false) (d : Nat) (g : Nat → Nat → Int) (M : Nat → Nat → Int) (hsr : o_sr (g 193) M) (hwk : o_wk M) (s : Nat) (hs : (s : Int) < M 0 0) : o_Ct l yX12_lampsOf wX12_lampsOf (d + 3) o_no [.ref 192, .int (o_I (s : Int)), .int (o_I 1)] o_N (o_mem g) 0 0 (o_is (some (.int (o_I (m_any M s)))) o_N (o_mem g)) := by
  refine o_Ct.ofV hl mX12_lampsOf (by decide +kernel) rfl rfl rfl (Nat.le_of_ble_eq_true rfl) ?_
  obtain ⟨⟨hr0, hr1, hr2, hr3, hr4, hr5, hr6⟩, hrs, hrl, hrq⟩ := id hsr
  obtain ⟨hws, hwl, hwq, hwo, hwle, hwrq, hwrd⟩ := id hwk
  obtain ⟨hw1, hw2, hw3⟩ := id hws
  obtain ⟨hw4, hw5, hw6, hw7, hw8⟩ := id hwl
  obtain ⟨hw9, hw10, hw11⟩ := id hwq
  have key := o_lp (fun i => o_V l mX12_lampsOf (d + 3) o_no (o_is (some (.int (o_I (m_any M s)))) o_N (o_mem g)) 5 [(0, .ref 192), (1, .int (o_I (s : Int))), (2, .int (o_I 1)), (3, .int (o_I (o_sm (fun i => o_b (M 5 i = (s : Int) + 1 ∧ M 8 i = 1)) i))), (4, .int (o_I ((i : Nat) : Int)))] [] o_N (o_mem g) 0 0) (M 0 1).toNat (fun i hi ih => by
    refine o_iload dX12_lampsOf_5 rfl ?_
    refine o_aload_n dX12_lampsOf_7 rfl ?_
    refine o_gf dX12_lampsOf_8 fl_X12_9 rfl (by decide) rfl ?_
    refine o_iconst dX12_lampsOf_11 ?_
    refine o_ialdn (j := 1) dX12_lampsOf_12 (by decide) rfl (by decide) (by first | rfl | omega) (by omega) ?_
    refine o_icmp_ge (tgt := 58) dX12_lampsOf_13 (by decide) ⟨by omega, by omega⟩ ⟨by omega, by omega⟩ (fun c_13 => ?_) (fun c_13 => ?_)
    · skip
      refine o_iload_n dX12_lampsOf_58 rfl ?_
      refine o_ret1 dX12_lampsOf_59 trivial ?_
      rw [show i = (M 0 1).toNat by omega]
      exact ⟨rfl, rfl, rfl⟩
    · skip
      have hi9 : (i : Int) < M 0 1 := by omega
      have hb8 := hw8 i hi9
      have hl8 := hrl i hi9
      refine o_iload_n dX12_lampsOf_16 rfl ?_
      refine o_aload_n dX12_lampsOf_17 rfl ?_
      refine o_iload dX12_lampsOf_18 rfl ?_
      refine o_iconst dX12_lampsOf_20 ?_
      refine o_cV _ (ct_X12_of hl (d + 1) g i 1 (by omega) (by decide)) dX12_lampsOf_21 ml_X12_58 yw_X12_of rfl (by decide) (by omega) (by decide) rfl rfl rfl (Nat.le_of_ble_eq_true rfl) ?_
      refine o_iload_n dX12_lampsOf_24 rfl ?_
      refine o_iconst dX12_lampsOf_25 ?_
      refine o_iadd dX12_lampsOf_26 ?_
      refine o_icmp_ne (tgt := 49) dX12_lampsOf_27 (by decide) ⟨by omega, by omega⟩ ⟨by omega, by omega⟩ (fun c_27 => ?_) (fun c_27 => ?_)
      · skip
        refine o_iconst dX12_lampsOf_49 ?_
        refine o_iadd dX12_lampsOf_50 ?_
        refine o_istore_n dX12_lampsOf_51 (by decide) ?_
        refine o_iinc dX12_lampsOf_52 rfl (by decide) ?_
        refine o_goto (tgt := 5) dX12_lampsOf_55 (by decide) ?_
        exact o_loc [(0, .ref 192), (1, .int (o_I (s : Int))), (2, .int (o_I 1)), (3, .int (o_I (o_sm (fun i => o_b (M 5 i = (s : Int) + 1 ∧ M 8 i = 1)) (i + 1)))), (4, .int (o_I (((i + 1) : Nat) : Int)))] (by simp only [o_sm]; rw [o_b0 (fun q => by omega)]; rfl) (ih (by omega))
      · skip
        refine o_iload_n dX12_lampsOf_30 rfl ?_
        refine o_if_eq (tgt := 45) dX12_lampsOf_31 (by decide) ⟨by omega, by omega⟩ (fun c => absurd c (by decide)) (fun _ => ?_)
        refine o_aload_n dX12_lampsOf_34 rfl ?_
        refine o_iload dX12_lampsOf_35 rfl ?_
        refine o_iconst dX12_lampsOf_37 ?_
        refine o_cV _ (ct_X12_of hl (d + 1) g i 4 (by omega) (by decide)) dX12_lampsOf_38 ml_X12_58 yw_X12_of rfl (by decide) (by omega) (by decide) rfl rfl rfl (Nat.le_of_ble_eq_true rfl) ?_
        refine o_iconst dX12_lampsOf_41 ?_
        refine o_icmp_ne (tgt := 49) dX12_lampsOf_42 (by decide) ⟨by omega, by omega⟩ ⟨by omega, by omega⟩ (fun c_42 => ?_) (fun c_42 => ?_)
        · skip
          refine o_iconst dX12_lampsOf_49 ?_
          refine o_iadd dX12_lampsOf_50 ?_
          refine o_istore_n dX12_lampsOf_51 (by decide) ?_
          refine o_iinc dX12_lampsOf_52 rfl (by decide) ?_
          refine o_goto (tgt := 5) dX12_lampsOf_55 (by decide) ?_
          exact o_loc [(0, .ref 192), (1, .int (o_I (s : Int))), (2, .int (o_I 1)), (3, .int (o_I (o_sm (fun i => o_b (M 5 i = (s : Int) + 1 ∧ M 8 i = 1)) (i + 1)))), (4, .int (o_I (((i + 1) : Nat) : Int)))] (by simp only [o_sm]; rw [o_b0 (fun q => by omega)]; rfl) (ih (by omega))
        · skip
          refine o_iconst dX12_lampsOf_45 ?_
          refine o_goto (tgt := 50) dX12_lampsOf_46 (by decide) ?_
          refine o_iadd dX12_lampsOf_50 ?_
          refine o_istore_n dX12_lampsOf_51 (by decide) ?_
          refine o_iinc dX12_lampsOf_52 rfl (by decide) ?_
          refine o_goto (tgt := 5) dX12_lampsOf_55 (by decide) ?_
          exact o_loc [(0, .ref 192), (1, .int (o_I (s : Int))), (2, .int (o_I 1)), (3, .int (o_I (o_sm (fun i => o_b (M 5 i = (s : Int) + 1 ∧ M 8 i = 1)) (i + 1)))), (4, .int (o_I (((i + 1) : Nat) : Int)))] (by simp only [o_sm]; rw [o_b1 ⟨by omega, by omega⟩]; rfl) (ih (by omega)))
  refine o_iconst dX12_lampsOf_0 ?_
  refine o_istore_n dX12_lampsOf_1 (by decide) ?_
  refine o_iconst dX12_lampsOf_2 ?_
  refine o_istore dX12_lampsOf_3 (by decide) ?_
  exact o_loc _ rfl (key 0 (Nat.zero_le _))
theorem sr_cut {g g1 g2 M : Nat → Nat → Int} {r : Nat} (h : o_sr (g 193) M) (b0 : M 0 0 ≤ 6) (b1 : M 0 1 ≤ 8) (b6 : M 0 6 ≤ 8) (hr : (r : Int) < M 0 6) (e1 : g1 = o_e g 193 6 (M 0 6 - 1)) {m : Nat} (hm : (m : Int) = 2 * (M 0 6 - 1 - r)) (e2 : g2 = o_cp g1 193 193 (65 + 2 * r + 2) (65 + 2 * r) m) : o_sr (g2 193) (m_cut M r) := by
  obtain ⟨⟨a0, a1, a2, a3, a4, a5, a6⟩, hS, hL, hQ⟩ := h
  subst e2; subst e1
  have hr1 : (r : Int) ≠ -1 := by omega
  have E : ∀ j, j < 65 + 2 * r → j ≠ 6 → o_cp (o_e g 193 6 (M 0 6 - 1)) 193 193 (65 + 2 * r + 2) (65 + 2 * r) m 193 j = g 193 j := by
    intro j hj h6
    unfold o_cp
    rw [if_neg (by omega), o_e_k h6]
  have E6 : o_cp (o_e g 193 6 (M 0 6 - 1)) 193 193 (65 + 2 * r + 2) (65 + 2 * r) m 193 6 = M 0 6 - 1 := by
    unfold o_cp
    rw [if_neg (by omega), o_e_s]
  have E2 : ∀ j, 65 + 2 * r ≤ j → j < 65 + 2 * r + m → o_cp (o_e g 193 6 (M 0 6 - 1)) 193 193 (65 + 2 * r + 2) (65 + 2 * r) m 193 j = g 193 (j + 2) := by
    intro j h1 h2
    unfold o_cp
    rw [if_pos ⟨rfl, h1, h2⟩, o_e_k (by omega), show 65 + 2 * r + 2 + (j - (65 + 2 * r)) = j + 2 by omega]
  have c1 : ∀ a j, a ≠ 9 → a ≠ 10 → ¬ (a = 0 ∧ j = 6) → m_cut M r a j = M a j := fun a j q1 q2 q3 => m_cut_e q1 q2 q3
  have c06 : m_cut M r 0 6 = M 0 6 - 1 := by simp [m_cut, hr1]
  refine ⟨⟨?_, ?_, ?_, ?_, ?_, ?_, ?_⟩, fun i hi => ?_, fun i hi => ?_, fun i hi => ?_⟩
  · rw [E _ (by omega) (by decide), c1 0 0 (by decide) (by decide) (by decide)]; exact a0
  · rw [E _ (by omega) (by decide), c1 0 1 (by decide) (by decide) (by decide)]; exact a1
  · rw [E _ (by omega) (by decide), c1 0 2 (by decide) (by decide) (by decide)]; exact a2
  · rw [E _ (by omega) (by decide), c1 0 3 (by decide) (by decide) (by decide)]; exact a3
  · rw [E _ (by omega) (by decide), c1 0 4 (by decide) (by decide) (by decide)]; exact a4
  · rw [E _ (by omega) (by decide), c1 0 5 (by decide) (by decide) (by decide)]; exact a5
  · rw [E6, c06]
  · rw [c1 0 0 (by decide) (by decide) (by decide)] at hi
    rw [E _ (by omega) (by omega), E _ (by omega) (by omega), E _ (by omega) (by omega), c1 1 i (by decide) (by decide) (by simp), c1 2 i (by decide) (by decide) (by simp), c1 3 i (by decide) (by decide) (by simp)]
    exact hS i hi
  · rw [c1 0 1 (by decide) (by decide) (by decide)] at hi
    rw [E _ (by omega) (by omega), E _ (by omega) (by omega), E _ (by omega) (by omega), E _ (by omega) (by omega), E _ (by omega) (by omega), c1 4 i (by decide) (by decide) (by simp), c1 5 i (by decide) (by decide) (by simp), c1 6 i (by decide) (by decide) (by simp), c1 7 i (by decide) (by decide) (by simp), c1 8 i (by decide) (by decide) (by simp)]
    exact hL i hi
  · rw [c06] at hi
    by_cases q : (r : Int) ≤ i
    · have t := hQ (i + 1) (by omega)
      rw [E2 _ (by omega) (by omega), E2 _ (by omega) (by omega)]
      have c9 : m_cut M r 9 i = M 9 (i + 1) := by simp [m_cut, hr1, q]
      have c10 : m_cut M r 10 i = M 10 (i + 1) := by simp [m_cut, hr1, q]
      rw [c9, c10]
      exact t
    · have t := hQ i (by omega)
      rw [E _ (by omega) (by omega), E _ (by omega) (by omega)]
      have c9 : m_cut M r 9 i = M 9 i := by simp [m_cut, hr1, q]
      have c10 : m_cut M r 10 i = M 10 i := by simp [m_cut, hr1, q]
      rw [c9, c10]
      exact t
set_option maxRecDepth 100000 in
set_option maxHeartbeats 4000000 in
/-- frees(x) -/
theorem ct_X12_frees {l : Launch} (hl : l.stackTraces = false) (d : Nat) (g : Nat → Nat → Int) (M : Nat → Nat → Int) (hsr : o_sr (g 193) M) (hwk : o_wk M) (x : Nat) (hx : (x : Int) < M 0 1) : o_Ct l yX12_frees wX12_frees (d + 2) o_no [.ref 192, .int (o_I (x : Int))] o_N (o_mem g) 0 0 (o_mt (none) (fun g' => o_sr (g' 193) (m_free M x) ∧ o_fr o_mc g g')) := by
  refine o_Ct.ofV hl mX12_frees (by decide +kernel) rfl rfl rfl (Nat.le_of_ble_eq_true rfl) ?_
  obtain ⟨⟨hr0, hr1, hr2, hr3, hr4, hr5, hr6⟩, hrs, hrl, hrq⟩ := id hsr
  obtain ⟨hws, hwl, hwq, hwo, hwle, hwrq, hwrd⟩ := id hwk
  obtain ⟨hw1, hw2, hw3⟩ := id hws
  obtain ⟨hw4, hw5, hw6, hw7, hw8⟩ := id hwl
  obtain ⟨hw9, hw10, hw11⟩ := id hwq
  refine o_aload_n dX12_frees_0 rfl ?_
  refine o_iload_n dX12_frees_1 rfl ?_
  refine o_cV _ (ct_X12_requestFor hl d g M hsr hwk x (by omega) (m_pos M x) (o_ps_fst _ _)) dX12_frees_2 ml_X12_62 yw_X12_requestFor rfl (by decide) (by omega) (by decide) rfl rfl rfl (Nat.le_of_ble_eq_true rfl) ?_
  have hp := o_ps_fst (fun i => M 9 i = (x : Int)) (M 0 6).toNat
  rw [show o_ps (fun i => M 9 i = (x : Int)) (M 0 6).toNat = m_pos M x from rfl] at hp
  have hpR : -1 ≤ m_pos M x ∧ m_pos M x < M 0 6 := by rcases hp with ⟨q, -⟩ | ⟨j, q, hj, -⟩ <;> omega
  refine o_istore_n dX12_frees_5 (by decide) ?_
  refine o_iload_n dX12_frees_6 rfl ?_
  refine o_if_lt (tgt := 54) dX12_frees_7 (by decide) ⟨by omega, by omega⟩ (fun c_7 => ?_) (fun c_7 => ?_)
  · skip
    have hr' : m_pos M x = -1 := by omega
    have hcut0 : o_sr (g 193) (m_cut M (-1)) := by rw [m_cut, if_pos rfl]; exact hsr
    refine o_aload_n dX12_frees_54 rfl ?_
    refine o_iload_n dX12_frees_55 rfl ?_
    refine o_iconst dX12_frees_56 ?_
    refine o_iconst dX12_frees_57 ?_
    refine o_cVm _ (ct_X12_sets hl d g x 1 (by omega) (by decide) 0) dX12_frees_58 ml_X12_66 yw_X12_sets rfl (by decide) (by omega) (by decide) rfl rfl rfl (Nat.le_of_ble_eq_true rfl) (fun g_58 q_58 => ?_)
    refine o_aload_n dX12_frees_61 rfl ?_
    refine o_iload_n dX12_frees_62 rfl ?_
    refine o_iconst dX12_frees_63 ?_
    refine o_iconst dX12_frees_64 ?_
    refine o_cVm _ (ct_X12_sets hl d g_58 x 2 (by omega) (by decide) 0) dX12_frees_65 ml_X12_66 yw_X12_sets rfl (by decide) (by omega) (by decide) rfl rfl rfl (Nat.le_of_ble_eq_true rfl) (fun g_65 q_65 => ?_)
    refine o_ret0 dX12_frees_68 trivial ?_
    have k1 := sr_5' hcut0 (by rw [m_cut_e (by decide) (by decide) (by decide)]; exact hw2) (by rw [m_cut_e (by decide) (by decide) (by decide)]; exact hw5) q_58 (by omega) rfl
    have k2 := sr_6' k1 (show m_cut M (-1) 0 0 ≤ 6 by rw [m_cut_e (by decide) (by decide) (by decide)]; exact hw2) (show m_cut M (-1) 0 1 ≤ 8 by rw [m_cut_e (by decide) (by decide) (by decide)]; exact hw5) q_65 (by omega) rfl
    rw [m_cut_cm] at k2
    refine o_mt0 ⟨?_, o_fr_e' (o_fr_e' (o_fr_r) q_58 (show o_mc _ from rfl)) q_65 (show o_mc _ from rfl)⟩
    unfold m_free
    rw [hr']
    exact k2
  · skip
    obtain ⟨r, hr'⟩ : ∃ r : Nat, m_pos M x = (r : Int) := ⟨(m_pos M x).toNat, by omega⟩
    rw [hr']
    refine o_aload_n dX12_frees_10 rfl ?_
    refine o_gf dX12_frees_11 fl_X12_9 rfl (by decide) rfl ?_
    refine o_bipush dX12_frees_14 (by decide) ?_
    refine o_dup2 dX12_frees_16 rfl rfl ?_
    refine o_ialdn (j := 6) dX12_frees_17 (by decide) rfl (by decide) (by first | rfl | omega) (by omega) ?_
    refine o_iconst dX12_frees_18 ?_
    refine o_isub dX12_frees_19 ?_
    refine o_iaEn (j := 6) dX12_frees_20 rfl (by decide) (by decide) (by first | rfl | omega) (by omega) (fun _ => rfl) (by decide) (fun g_20 e_20 => ?_)
    refine o_bipush dX12_frees_21 (by decide) ?_
    refine o_iconst dX12_frees_23 ?_
    refine o_iload_n dX12_frees_24 rfl ?_
    refine o_imul dX12_frees_25 ?_
    refine o_iadd dX12_frees_26 ?_
    refine o_istore_n dX12_frees_27 (by decide) ?_
    refine o_aload_n dX12_frees_28 rfl ?_
    refine o_gf dX12_frees_29 fl_X12_9 rfl (by decide) rfl ?_
    refine o_iload_n dX12_frees_32 rfl ?_
    refine o_iconst dX12_frees_33 ?_
    refine o_iadd dX12_frees_34 ?_
    refine o_aload_n dX12_frees_35 rfl ?_
    refine o_gf dX12_frees_36 fl_X12_9 rfl (by decide) rfl ?_
    refine o_iload_n dX12_frees_39 rfl ?_
    refine o_iconst dX12_frees_40 ?_
    refine o_aload_n dX12_frees_41 rfl ?_
    refine o_gf dX12_frees_42 fl_X12_9 rfl (by decide) rfl ?_
    refine o_bipush dX12_frees_45 (by decide) ?_
    refine o_ialdn (j := 6) dX12_frees_47 (by decide) rfl (by decide) (by first | rfl | omega) (by omega) ?_
    refine o_iload_n dX12_frees_48 rfl ?_
    refine o_isub dX12_frees_49 ?_
    refine o_imul dX12_frees_50 ?_
    refine o_cpE (sp := (65 + 2 * r + 2)) (dp := (65 + 2 * r)) (m0 := (2 * ((M 0 6).toNat - 1 - r))) dX12_frees_51 ml_X12_45 (by decide) (by decide) rfl rfl (by decide) (by decide) (by first | rfl | omega) (by first | rfl | omega) (by have t : g_20 193 6 = M 0 6 - 1 := (by rw [e_20, o_e_s, hr6]); omega) (by omega) (by omega) (Nat.le_of_ble_eq_true rfl) (fun _ => rfl) (by decide) (fun g_51 e_51 => ?_)
    have h_51 : o_sr (g_51 193) (m_cut M r) := sr_cut hsr hw2 hw5 hw10 (by omega) (by rw [e_20, hr6]) (m := 2 * ((M 0 6).toNat - 1 - r)) (by omega) e_51
    refine o_aload_n dX12_frees_54 rfl ?_
    refine o_iload_n dX12_frees_55 rfl ?_
    refine o_iconst dX12_frees_56 ?_
    refine o_iconst dX12_frees_57 ?_
    refine o_cVm _ (ct_X12_sets hl d g_51 x 1 (by omega) (by decide) 0) dX12_frees_58 ml_X12_66 yw_X12_sets rfl (by decide) (by omega) (by decide) rfl rfl rfl (Nat.le_of_ble_eq_true rfl) (fun g_58 q_58 => ?_)
    refine o_aload_n dX12_frees_61 rfl ?_
    refine o_iload_n dX12_frees_62 rfl ?_
    refine o_iconst dX12_frees_63 ?_
    refine o_iconst dX12_frees_64 ?_
    refine o_cVm _ (ct_X12_sets hl d g_58 x 2 (by omega) (by decide) 0) dX12_frees_65 ml_X12_66 yw_X12_sets rfl (by decide) (by omega) (by decide) rfl rfl rfl (Nat.le_of_ble_eq_true rfl) (fun g_65 q_65 => ?_)
    refine o_ret0 dX12_frees_68 trivial ?_
    have k1 := sr_5' h_51 (by rw [m_cut_e (by decide) (by decide) (by decide)]; exact hw2) (by rw [m_cut_e (by decide) (by decide) (by decide)]; exact hw5) q_58 (by omega) rfl
    have k2 := sr_6' k1 (show m_cut M (r : Int) 0 0 ≤ 6 by rw [m_cut_e (by decide) (by decide) (by decide)]; exact hw2) (show m_cut M (r : Int) 0 1 ≤ 8 by rw [m_cut_e (by decide) (by decide) (by decide)]; exact hw5) q_65 (by omega) rfl
    rw [m_cut_cm] at k2
    refine o_mt0 ⟨?_, o_fr_e' (o_fr_e' (fun a ha => by rw [e_51, o_cp_n (fun q => ha q), e_20, o_e_n (fun q => ha q)]) q_58 (show o_mc _ from rfl)) q_65 (show o_mc _ from rfl)⟩
    unfold m_free
    rw [hr']
    exact k2
