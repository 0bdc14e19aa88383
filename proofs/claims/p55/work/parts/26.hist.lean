/-! the history: a list of states, the oldest first, in a ring -/
def o_hs (g : Nat → Nat → Int) (L : List (Nat → Nat → Int)) : Prop := ∃ o : Nat, o < 8 ∧ g 43 1 = o ∧ g 43 2 = L.length ∧ L.length ≤ 8 ∧ ∀ k M, L[k]? = some M → o_stb g (45 + 14 * ((o + k) % 8)) M
def h_push (L : List (Nat → Nat → Int)) (M : Nat → Nat → Int) : List (Nat → Nat → Int) := (if L.length < 8 then L else L.tail) ++ [M]
def o_hc : Nat → Prop := fun a => 43 ≤ a ∧ a < 157
section OA
variable {l : Launch} {M : o_M} {d : Nat} {al : Nat → Prop} {post : o_P} {pc : Nat} {ls : List (Nat × Value)} {st : List Value} {n : Nat} {h : Nat → o_C} {mc ms : Nat}
theorem o_aaldn {b len t r j : Nat} {C : String} {f : Nat → Option Nat} {i : Int} (hd : decode M.2.1 pc = .ok (.aaload, 1)) (hb : b < n) (hh : h b = .inl (t, len, .inr (.inr (.inr (.inr f))))) (ht : o_tyL[t]? = some (.object C)) (hle : len ≤ 2147483647) (hi : i = (j : Int)) (h1 : j < len) (hr : f j = some r) (k9 : o_V l M d al post (pc + 1) ls (.ref r :: st) n h mc ms) : o_V l M d al post pc ls (.int (o_I i) :: .ref b :: st) n h mc ms := by
  subst hi
  exact o_aald hd hb hh ht hle (by omega) (by omega) hr k9
end OA
set_option maxRecDepth 100000 in
set_option maxHeartbeats 4000000 in
/-- push(state) -/
theorem ct_X5_push {l : Launch} (hl : l.stackTraces = false) (d : Nat) (g : Nat → Nat → Int) (L : List (Nat → Nat → Int)) (hL : o_hs g L) (M : Nat → Nat → Int) (c : Nat) (hC : o_SB c) (hc : c + 14 ≤ 43) (hst : o_stb g c M) (hws : o_ws M) (hwl : o_wl M) (hwq : o_wq M) : o_Ct l yX5_push wX5_push (d + 3) o_no [.ref 43, .ref c] o_N (o_mem g) 0 0 (o_mt (none) (fun g' => o_hs g' (h_push L M) ∧ o_fr o_hc g g')) := by
  refine o_Ct.ofV hl mX5_push (by decide +kernel) rfl rfl rfl (Nat.le_of_ble_eq_true rfl) ?_
  obtain ⟨o, ho, h1, h2, h3, h5⟩ := hL
  refine o_aload_n dX5_push_0 rfl ?_
  refine o_gf dX5_push_1 fl_X5_11 rfl (by decide) rfl ?_
  refine o_aload_n dX5_push_4 rfl ?_
  refine o_gf dX5_push_5 fl_X5_18 rfl (by decide) rfl ?_
  refine o_aload_n dX5_push_8 rfl ?_
  refine o_gf dX5_push_9 fl_X5_22 rfl (by decide) rfl ?_
  refine o_iadd dX5_push_12 ?_
  refine o_bipush dX5_push_13 (by decide) ?_
  refine o_irem dX5_push_15 ⟨by omega, by omega⟩ ⟨by omega, by omega⟩ (by omega) (by omega) ?_
  refine o_aaldn (j := (o + L.length) % 8) dX5_push_16 (by decide) rfl rfl (by decide) (by omega) (by omega) (show some _ = some (45 + 14 * ((o + L.length) % 8)) from congrArg some (if_pos (by omega))) ?_
  refine o_aload_n dX5_push_17 rfl ?_
  refine o_cVm _ (ct_X10_copyFrom hl d g M (45 + 14 * ((o + L.length) % 8)) c (o_SBr (by omega)) hC (by omega) hst hws hwl hwq) dX5_push_18 ml_X5_25 yw_X10_copyFrom rfl (by decide) (by omega) (show 45 + 14 * ((o + L.length) % 8) < 192 by omega) ((o_SBr (show (o + L.length) % 8 < 8 by omega)).F0 _ _) rfl rfl (Nat.le_of_ble_eq_true rfl) (fun g_18 q_18 => ?_)
  have f18 : ∀ a, ¬ (45 + 14 * ((o + L.length) % 8) ≤ a ∧ a < 45 + 14 * ((o + L.length) % 8) + 14) → g_18 a = g a := q_18.2
  have hlen : g_18 43 2 = L.length := by rw [f18 43 (by omega)]; exact h2
  refine o_aload_n dX5_push_21 rfl ?_
  refine o_gf dX5_push_22 fl_X5_22 rfl (by decide) rfl ?_
  refine o_bipush dX5_push_25 (by decide) ?_
  refine o_icmp_ge (tgt := 43) dX5_push_27 (by decide) ⟨by omega, by omega⟩ ⟨by omega, by omega⟩ (fun c_27 => ?_) (fun c_27 => ?_)
  · skip
    refine o_aload_n dX5_push_43 rfl ?_
    refine o_aload_n dX5_push_44 rfl ?_
    refine o_gf dX5_push_45 fl_X5_18 rfl (by decide) rfl ?_
    refine o_iconst dX5_push_48 ?_
    refine o_iadd dX5_push_49 ?_
    have h1b : g_18 43 1 = o := by rw [f18 43 (by omega)]; exact h1
    refine o_bipush dX5_push_50 (by decide) ?_
    refine o_irem dX5_push_52 ⟨by omega, by omega⟩ ⟨by omega, by omega⟩ (by omega) (by omega) ?_
    refine o_pmE dX5_push_53 fp_X5_18 rfl (by decide) (Nat.le_of_ble_eq_true rfl) rfl rfl (fun _ => rfl) (by decide) (fun g_53 e_53 => ?_)
    have hlt : ¬ L.length < 8 := by omega
    refine o_ret0 dX5_push_56 trivial ?_
    first
      | (refine o_mt0 ⟨⟨o, ho, ?_, ?_, ?_, fun k M' hk => ?_⟩, fun a ha => ?_⟩
         · rw [e_37, o_e_k (by decide), f18 43 (by omega)]; exact h1
         · rw [e_37, o_e_s, hlen]
           simp only [h_push, if_pos hlt, List.length_append, List.length_singleton]
           omega
         · simp only [h_push, if_pos hlt, List.length_append, List.length_singleton]
           omega
         · simp only [h_push, if_pos hlt] at hk
           rcases Nat.lt_or_ge k L.length with q | q
           · rw [List.getElem?_append_left q] at hk
             refine o_stb_fr (o_stb_fr (h5 k M' hk) q_18.2 (fun a b1 b2 b3 => ?_)) (S := fun a => a = 43) (fun a ha => by rw [e_37, o_e_n ha]) (fun a b1 b2 b3 => by omega)
             have b3 : 45 + 14 * ((o + L.length) % 8) ≤ a ∧ a < 45 + 14 * ((o + L.length) % 8) + 14 := b3
             omega
           · have q3 : k = L.length := by
               rcases Nat.lt_or_ge L.length k with q2 | q2
               · rw [List.getElem?_eq_none (by simp; omega)] at hk; cases hk
               · omega
             subst q3
             rw [List.getElem?_append_right (Nat.le_refl _), Nat.sub_self] at hk
             cases hk
             exact o_stb_fr q_18.1 (S := fun a => a = 43) (fun a ha => by rw [e_37, o_e_n ha]) (fun a b1 b2 b3 => by omega)
         · have ha' : ¬ (43 ≤ a ∧ a < 157) := ha
           rw [e_37, o_e_n (by omega), f18 a (by omega)])
      | (refine o_mt0 ⟨⟨(o + 1) % 8, by omega, ?_, ?_, ?_, fun k M' hk => ?_⟩, fun a ha => ?_⟩
         · rw [e_53, o_e_s, f18 43 (by omega), h1]
           omega
         · rw [e_53, o_e_k (by decide), hlen]
           simp only [h_push, if_neg hlt, List.length_append, List.length_singleton, List.length_tail]
           omega
         · simp only [h_push, if_neg hlt, List.length_append, List.length_singleton, List.length_tail]
           omega
         · simp only [h_push, if_neg hlt] at hk
           rcases Nat.lt_or_ge k L.tail.length with q | q
           · rw [List.getElem?_append_left q] at hk
             have hk2 : L[k + 1]? = some M' := by rw [List.getElem?_tail] at hk; exact hk
             rw [List.length_tail] at q
             have t := h5 (k + 1) M' hk2
             rw [show (o + (k + 1)) % 8 = ((o + 1) % 8 + k) % 8 by omega] at t
             refine o_stb_fr (o_stb_fr t q_18.2 (fun a b1 b2 b3 => ?_)) (S := fun a => a = 43) (fun a ha => by rw [e_53, o_e_n ha]) (fun a b1 b2 b3 => by omega)
             have b3 : 45 + 14 * ((o + L.length) % 8) ≤ a ∧ a < 45 + 14 * ((o + L.length) % 8) + 14 := b3
             omega
           · have q3 : k = L.tail.length := by
               rcases Nat.lt_or_ge L.tail.length k with q2 | q2
               · rw [List.getElem?_eq_none (by simp at q2 ⊢; omega)] at hk; cases hk
               · omega
             subst q3
             rw [List.getElem?_append_right (Nat.le_refl _), Nat.sub_self] at hk
             cases hk
             rw [List.length_tail, show ((o + 1) % 8 + (L.length - 1)) % 8 = (o + L.length) % 8 by omega]
             exact o_stb_fr q_18.1 (S := fun a => a = 43) (fun a ha => by rw [e_53, o_e_n ha]) (fun a b1 b2 b3 => by omega)
         · have ha' : ¬ (43 ≤ a ∧ a < 157) := ha
           rw [e_53, o_e_n (by omega), f18 a (by omega)])
  · skip
    refine o_aload_n dX5_push_30 rfl ?_
    refine o_dup dX5_push_31 rfl ?_
    refine o_gf dX5_push_32 fl_X5_22 rfl (by decide) rfl ?_
    refine o_iconst dX5_push_35 ?_
    refine o_iadd dX5_push_36 ?_
    refine o_pmE dX5_push_37 fp_X5_22 rfl (by decide) (Nat.le_of_ble_eq_true rfl) rfl rfl (fun _ => rfl) (by decide) (fun g_37 e_37 => ?_)
    have hlt : L.length < 8 := by omega
    refine o_goto (tgt := 56) dX5_push_40 (by decide) ?_
    refine o_ret0 dX5_push_56 trivial ?_
    first
      | (refine o_mt0 ⟨⟨o, ho, ?_, ?_, ?_, fun k M' hk => ?_⟩, fun a ha => ?_⟩
         · rw [e_37, o_e_k (by decide), f18 43 (by omega)]; exact h1
         · rw [e_37, o_e_s, hlen]
           simp only [h_push, if_pos hlt, List.length_append, List.length_singleton]
           omega
         · simp only [h_push, if_pos hlt, List.length_append, List.length_singleton]
           omega
         · simp only [h_push, if_pos hlt] at hk
           rcases Nat.lt_or_ge k L.length with q | q
           · rw [List.getElem?_append_left q] at hk
             refine o_stb_fr (o_stb_fr (h5 k M' hk) q_18.2 (fun a b1 b2 b3 => ?_)) (S := fun a => a = 43) (fun a ha => by rw [e_37, o_e_n ha]) (fun a b1 b2 b3 => by omega)
             have b3 : 45 + 14 * ((o + L.length) % 8) ≤ a ∧ a < 45 + 14 * ((o + L.length) % 8) + 14 := b3
             omega
           · have q3 : k = L.length := by
               rcases Nat.lt_or_ge L.length k with q2 | q2
               · rw [List.getElem?_eq_none (by simp; omega)] at hk; cases hk
               · omega
             subst q3
             rw [List.getElem?_append_right (Nat.le_refl _), Nat.sub_self] at hk
             cases hk
             exact o_stb_fr q_18.1 (S := fun a => a = 43) (fun a ha => by rw [e_37, o_e_n ha]) (fun a b1 b2 b3 => by omega)
         · have ha' : ¬ (43 ≤ a ∧ a < 157) := ha
           rw [e_37, o_e_n (by omega), f18 a (by omega)])
      | (refine o_mt0 ⟨⟨(o + 1) % 8, by omega, ?_, ?_, ?_, fun k M' hk => ?_⟩, fun a ha => ?_⟩
         · rw [e_53, o_e_s, f18 43 (by omega), h1]
           omega
         · rw [e_53, o_e_k (by decide), hlen]
           simp only [h_push, if_neg hlt, List.length_append, List.length_singleton, List.length_tail]
           omega
         · simp only [h_push, if_neg hlt, List.length_append, List.length_singleton, List.length_tail]
           omega
         · simp only [h_push, if_neg hlt] at hk
           rcases Nat.lt_or_ge k L.tail.length with q | q
           · rw [List.getElem?_append_left q] at hk
             have hk2 : L[k + 1]? = some M' := by rw [List.getElem?_tail] at hk; exact hk
             rw [List.length_tail] at q
             have t := h5 (k + 1) M' hk2
             rw [show (o + (k + 1)) % 8 = ((o + 1) % 8 + k) % 8 by omega] at t
             refine o_stb_fr (o_stb_fr t q_18.2 (fun a b1 b2 b3 => ?_)) (S := fun a => a = 43) (fun a ha => by rw [e_53, o_e_n ha]) (fun a b1 b2 b3 => by omega)
             have b3 : 45 + 14 * ((o + L.length) % 8) ≤ a ∧ a < 45 + 14 * ((o + L.length) % 8) + 14 := b3
             omega
           · have q3 : k = L.tail.length := by
               rcases Nat.lt_or_ge L.tail.length k with q2 | q2
               · rw [List.getElem?_eq_none (by simp at q2 ⊢; omega)] at hk; cases hk
               · omega
             subst q3
             rw [List.getElem?_append_right (Nat.le_refl _), Nat.sub_self] at hk
             cases hk
             rw [List.length_tail, show ((o + 1) % 8 + (L.length - 1)) % 8 = (o + L.length) % 8 by omega]
             exact o_stb_fr q_18.1 (S := fun a => a = 43) (fun a ha => by rw [e_53, o_e_n ha]) (fun a b1 b2 b3 => by omega)
         · have ha' : ¬ (43 ≤ a ∧ a < 157) := ha
           rw [e_53, o_e_n (by omega), f18 a (by omega)])
set_option maxRecDepth 100000 in
set_option maxHeartbeats 4000000 in
/-- popInto(state) -/
theorem ct_X5_popInto {l : Launch} (hl : l.stackTraces = false) (d : Nat) (g : Nat → Nat → Int) (L : List (Nat → Nat → Int)) (M : Nat → Nat → Int) (hL : o_hs g (L ++ [M])) (hws : o_ws M) (hwl : o_wl M) (hwq : o_wq M) : o_Ct l yX5_popInto wX5_popInto (d + 3) o_no [.ref 43, .ref 1] o_N (o_mem g) 0 0 (o_mt (none) (fun g' => o_st g' M ∧ o_hs g' L ∧ o_fr (fun a => (1 ≤ a ∧ a < 15) ∨ a = 43) g g')) := by
  refine o_Ct.ofV hl mX5_popInto (by decide +kernel) rfl rfl rfl (Nat.le_of_ble_eq_true rfl) ?_
  obtain ⟨o, ho, h1, h2, h3, h5⟩ := hL
  rw [List.length_append, List.length_singleton] at h2 h3
  refine o_aload_n dX5_popInto_0 rfl ?_
  refine o_gf dX5_popInto_1 fl_X5_22 rfl (by decide) rfl ?_
  refine o_if_le (tgt := 38) dX5_popInto_4 (by decide) ⟨by omega, by omega⟩ (fun c_4 => ?_) (fun c_4 => ?_)
  · skip
    refine o_ret0 dX5_popInto_38 trivial ?_
    first
      | (exfalso; omega)
      | (refine o_mt0 ⟨q_35.1, ⟨o, ho, ?_, ?_, by omega, fun k M' hk => ?_⟩, fun a ha => ?_⟩
         · rw [f35 43 (by omega)]; exact hg1
         · rw [f35 43 (by omega)]; exact hg2
         · have hkl : k < L.length := by rcases Nat.lt_or_ge k L.length with q | q; exact q; rw [List.getElem?_eq_none q] at hk; cases hk
           have hk2 : (L ++ [M])[k]? = some M' := by rw [List.getElem?_append_left hkl]; exact hk
           refine o_stb_fr (o_stb_fr (h5 k M' hk2) (S := fun a => a = 43) (fun a ha => by rw [e_14, o_e_n ha]) (fun a b1 b2 b3 => by omega)) q_35.2 (fun a b1 b2 b3 => ?_)
           have b3 : 1 ≤ a ∧ a < 1 + 14 := b3
           omega
         · have ha' : ¬ ((1 ≤ a ∧ a < 15) ∨ a = 43) := ha
           rw [f35 a (by omega), e_14, o_e_n (by omega)])
  · skip
    refine o_aload_n dX5_popInto_7 rfl ?_
    refine o_dup dX5_popInto_8 rfl ?_
    refine o_gf dX5_popInto_9 fl_X5_22 rfl (by decide) rfl ?_
    refine o_iconst dX5_popInto_12 ?_
    refine o_isub dX5_popInto_13 ?_
    refine o_pmE dX5_popInto_14 fp_X5_22 rfl (by decide) (Nat.le_of_ble_eq_true rfl) rfl rfl (fun _ => rfl) (by decide) (fun g_14 e_14 => ?_)
    refine o_aload_n dX5_popInto_17 rfl ?_
    refine o_aload_n dX5_popInto_18 rfl ?_
    refine o_gf dX5_popInto_19 fl_X5_11 rfl (by decide) rfl ?_
    refine o_aload_n dX5_popInto_22 rfl ?_
    have hg1 : g_14 43 1 = o := by rw [e_14, o_e_k (by decide)]; exact h1
    have hg2 : g_14 43 2 = L.length := by rw [e_14, o_e_s, h2]; omega
    refine o_gf dX5_popInto_23 fl_X5_18 rfl (by decide) rfl ?_
    refine o_aload_n dX5_popInto_26 rfl ?_
    refine o_gf dX5_popInto_27 fl_X5_22 rfl (by decide) rfl ?_
    refine o_iadd dX5_popInto_30 ?_
    refine o_bipush dX5_popInto_31 (by decide) ?_
    refine o_irem dX5_popInto_33 ⟨by omega, by omega⟩ ⟨by omega, by omega⟩ (by omega) (by omega) ?_
    refine o_aaldn (j := (o + L.length) % 8) dX5_popInto_34 (by decide) rfl rfl (by decide) (by rw [hg1, hg2]; omega) (by omega) (show some _ = some (45 + 14 * ((o + L.length) % 8)) from congrArg some (if_pos (by omega))) ?_
    refine o_cVm _ (ct_X10_copyFrom hl d g_14 M 1 (45 + 14 * ((o + L.length) % 8)) o_SB_1 (o_SBr (by omega)) (by omega) (o_stb_fr (h5 L.length M (by rw [List.getElem?_append_right (Nat.le_refl _), Nat.sub_self]; rfl)) (S := fun a => a = 43) (fun a ha => by rw [e_14, o_e_n ha]) (fun a b1 b2 b3 => by omega)) hws hwl hwq) dX5_popInto_35 ml_X5_25 yw_X10_copyFrom rfl (by decide) (by omega) (by decide) rfl rfl rfl (Nat.le_of_ble_eq_true rfl) (fun g_35 q_35 => ?_)
    have f35 : ∀ a, ¬ (1 ≤ a ∧ a < 1 + 14) → g_35 a = g_14 a := q_35.2
    refine o_ret0 dX5_popInto_38 trivial ?_
    first
      | (exfalso; omega)
      | (refine o_mt0 ⟨q_35.1, ⟨o, ho, ?_, ?_, by omega, fun k M' hk => ?_⟩, fun a ha => ?_⟩
         · rw [f35 43 (by omega)]; exact hg1
         · rw [f35 43 (by omega)]; exact hg2
         · have hkl : k < L.length := by rcases Nat.lt_or_ge k L.length with q | q; exact q; rw [List.getElem?_eq_none q] at hk; cases hk
           have hk2 : (L ++ [M])[k]? = some M' := by rw [List.getElem?_append_left hkl]; exact hk
           refine o_stb_fr (o_stb_fr (h5 k M' hk2) (S := fun a => a = 43) (fun a ha => by rw [e_14, o_e_n ha]) (fun a b1 b2 b3 => by omega)) q_35.2 (fun a b1 b2 b3 => ?_)
           have b3 : 1 ≤ a ∧ a < 1 + 14 := b3
           omega
         · have ha' : ¬ ((1 ≤ a ∧ a < 15) ∨ a = 43) := ha
           rw [f35 a (by omega), e_14, o_e_n (by omega)])

