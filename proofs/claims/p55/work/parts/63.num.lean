/-! a number's digits are written -/
theorem z_D1 (Z : o_Z) (ad : Nat → Nat) (s : State) (E : o_Ex Z ad s) : va_Z "java/lang/Integer" "DigitOnes" "[B" (o_rV ad (.ref 4000002)) (o_A Z) s s.heap := E.2.2.2.2.1.2.2.2.2.2.2.2.1
theorem z_D1t (Z : o_Z) (ad : Nat → Nat) (s : State) (E : o_Ex Z ad s) : va_T .byte (ad 4000002) 100 (fun j => .int (nI (48 + j % 10))) (o_A Z) s s.heap := E.2.2.2.2.1.2.2.2.2.2.2.2.2.1
theorem z_D2 (Z : o_Z) (ad : Nat → Nat) (s : State) (E : o_Ex Z ad s) : va_Z "java/lang/Integer" "DigitTens" "[B" (o_rV ad (.ref 4000003)) (o_A Z) s s.heap := E.2.2.2.2.1.2.2.2.2.2.2.2.2.2.1
theorem z_D2t (Z : o_Z) (ad : Nat → Nat) (s : State) (E : o_Ex Z ad s) : va_T .byte (ad 4000003) 100 (fun j => .int (nI (48 + j / 10))) (o_A Z) s s.heap := E.2.2.2.2.1.2.2.2.2.2.2.2.2.2.2.1
theorem o_divN {a : Nat} (ha : a < 100000000) : o_I (-(a : Int)) / o_I 100 = o_I (-((a / 100 : Nat) : Int)) := by
  have ra : o_R (-(a : Int)) := ⟨by omega, by omega⟩
  have rb : o_R 100 := ⟨by decide, by decide⟩
  rw [← Int32.toInt_inj, Int32.toInt_div_of_ne_right _ _ (by
    intro h
    have h1 := congrArg Int32.toInt h
    rw [o_toInt rb] at h1
    have h2 : (-1 : Int32).toInt = -1 := by decide
    omega), o_toInt ra, o_toInt rb, o_toInt ⟨by omega, by omega⟩, Int.neg_tdiv, Int.tdiv_eq_ediv_of_nonneg (by omega)]
  omega
section OD
variable {l : Launch} {M : o_M} {d : Nat} {al : Nat → Prop} {post : o_P} {pc : Nat} {ls : List (Nat × Value)} {st : List Value} {n : Nat} {h : Nat → o_C} {mc ms : Nat}
theorem o_idivN {a : Nat} (ha : a < 100000000) (hd : decode M.2.1 pc = .ok (.idiv, 1)) (k : o_V l M d al post (pc + 1) ls (.int (o_I (-((a / 100 : Nat) : Int))) :: st) n h mc ms) : o_V l M d al post pc ls (.int (o_I 100) :: .int (o_I (-(a : Int))) :: st) n h mc ms := by
  intro Z p e R s m args below meth c ad H locs cells slots MC MS la Q X E S P a1 a2 a3 a4 L K
  have k9 := k Z p e R s m args below meth c ad H locs cells slots MC MS la Q X E S P a1 a2 a3 a4 L K
  rw [← o_divN ha] at k9
  exact lv_idiv X.1 X.2.1 hd (o_nz ⟨by decide, by decide⟩ (by decide)) k9
end OD
/-- L stands in the builder's array from a on -/
def o_wr (g : Nat → Nat → Int) (a : Nat) (L : List Int) (g' : Nat → Nat → Int) : Prop := (∀ x, x ≠ 191 → g' x = g x) ∧ ∀ j, g' 191 j = if a ≤ j ∧ j < a + L.length then L.getD (j - a) 0 else g 191 j
theorem t_nf_2 {w : Nat} (h : 100 ≤ w) (h2 : w < 100000000) : t_nf 8 w = t_nf 8 (w / 100) ++ [48 + ((w / 10 % 10 : Nat) : Int)] ++ [48 + ((w % 10 : Nat) : Int)] := by
  have e1 : t_nf 8 w = t_nf 7 (w / 10) ++ [48 + ((w % 10 : Nat) : Int)] := by
    show (if 9 < w then _ else _) ++ _ = _
    rw [if_pos (by omega)]
  have e2 : t_nf 7 (w / 10) = t_nf 6 (w / 10 / 10) ++ [48 + ((w / 10 % 10 : Nat) : Int)] := by
    show (if 9 < w / 10 then _ else _) ++ _ = _
    rw [if_pos (by omega)]
  rw [e1, e2, show w / 10 / 10 = w / 100 by omega, t_nf_eq 6 8 (w / 100) (by rw [show (10 : Nat) ^ 6 = 1000000 by decide]; omega) (by rw [show (10 : Nat) ^ 8 = 100000000 by decide]; omega) (by decide) (by decide)]
theorem o_wr_2 {g g1 g2 g' : Nat → Nat → Int} {L : List Int} {a cp : Nat} {x y : Int} (h1 : g1 = o_e g 191 (cp - 1) y) (h2 : g2 = o_e g1 191 (cp - 2) x) (hc : 2 ≤ cp) (ha : a + L.length = cp - 2) (h : o_wr g2 a L g') : o_wr g a (L ++ [x] ++ [y]) g' := by
  refine ⟨fun z hz => by rw [h.1 z hz, h2, o_e_n hz, h1, o_e_n hz], fun j => ?_⟩
  have hl : (L ++ [x] ++ [y]).length = L.length + 2 := by rw [List.length_append, List.length_append]; rfl
  rw [h.2 j, hl]
  by_cases q1 : a ≤ j ∧ j < a + L.length
  · rw [if_pos q1, if_pos (by omega), o_getD_app (by rw [List.length_append, List.length_append]; omega), if_neg (by rw [List.length_append]; show j - a ≠ L.length + 1; omega), o_getD_app (by rw [List.length_append]; omega), if_neg (by omega)]
  · rw [if_neg q1]
    by_cases q2 : j = cp - 2
    · rw [if_pos (by omega), o_getD_app (by rw [List.length_append, List.length_append]; show j - a < L.length + 1 + 1; omega), if_neg (by rw [List.length_append]; show j - a ≠ L.length + 1; omega), o_getD_app (by rw [List.length_append]; show j - a < L.length + 1; omega), if_pos (by omega), h2, q2, o_e_s]
    · by_cases q3 : j = cp - 1
      · rw [if_pos (by omega), o_getD_app (by rw [List.length_append, List.length_append]; show j - a < L.length + 1 + 1; omega), if_pos (by rw [List.length_append]; show j - a = L.length + 1; omega), h2, o_e_k q2, h1, q3, o_e_s]
      · rw [if_neg (by omega), h2, o_e_k q2, h1, o_e_k q3]
set_option maxRecDepth 100000 in
set_option maxHeartbeats 4000000 in
theorem gc_loop {l : Launch} {d : Nat} {al : Nat → Prop} {post : o_P} {mc ms : Nat} (ix c : Nat) (hc : c ≤ 220) : ∀ (f w cp : Nat) (g : Nat → Nat → Int), w < 100 ^ (f + 1) → w < 100000000 → (t_nf 8 w).length ≤ cp → cp ≤ c → g 190 9 = c → (∀ g', o_wr g (cp - (t_nf 8 w).length) (t_nf 8 w) g' → post (.inl (some (.int (o_I ((cp - (t_nf 8 w).length : Nat) : Int))))) o_N (o_mem g')) → o_V l mJ6_getChars_ba4f3 d al post 22 [(0, .int (o_I (-(w : Int)))), (1, .int (o_I (ix : Int))), (2, .ref 191), (5, .int (o_I (cp : Int))), (6, .int (o_I 0))] [] o_N (o_mem g) mc ms := by
  intro f
  induction f with
  | zero =>
    intro w cp g hw hw2 hl hcp hg9 hp
    have hw : w < 100 := hw
    refine o_iload_n dJ6_getChars_ba4f3_22 rfl ?_
    refine o_bipush dJ6_getChars_ba4f3_23 (by decide) ?_
    refine o_icmp_gt (tgt := 72) dJ6_getChars_ba4f3_25 (by decide) ⟨by omega, by omega⟩ ⟨by decide, by decide⟩ (fun c_25 => ?_) (fun c_25 => absurd (by omega) c_25)
    have hl1 : 1 ≤ (t_nf 8 w).length := t_nf_pos 7 w
    refine o_aload_n dJ6_getChars_ba4f3_72 rfl ?_
    refine o_iinc dJ6_getChars_ba4f3_73 rfl (by decide) ?_
    refine o_iload dJ6_getChars_ba4f3_76 rfl ?_
    refine o_gs dJ6_getChars_ba4f3_78 (o_gT (i := 1219) (by decide +kernel) rfl) z_D1 ?_
    refine o_iload_n dJ6_getChars_ba4f3_81 rfl ?_
    refine o_ineg dJ6_getChars_ba4f3_82 ?_
    rw [show (- -(w : Int)) = (w : Int) by omega]
    refine o_tbC (z := o_I (48 + ((w % 10 : Nat) : Int))) dJ6_getChars_ba4f3_83 z_D1t (by omega) (by omega) (by decide) (by rw [Int.toNat_natCast, o_nI]; congr 2) ?_
    refine o_baE (len := c) dJ6_getChars_ba4f3_84 (by rw [o_m191, hg9, Int.toNat_natCast]) (by decide) (by omega) (by omega) (by omega) (by omega) (by omega) (fun _ => by show _ = Sum.inl (3, (g 190 9).toNat, _); rw [hg9, Int.toNat_natCast]) (by decide) (fun g_84 e_84 => ?_)
    rw [show ((cp : Int) + -1).toNat = cp - 1 by omega] at e_84
    refine o_iload_n dJ6_getChars_ba4f3_85 rfl ?_
    refine o_bipush dJ6_getChars_ba4f3_86 (by decide) ?_
    refine o_icmp_ge (tgt := 104) dJ6_getChars_ba4f3_88 (by decide) ⟨by omega, by omega⟩ ⟨by decide, by decide⟩ (fun c_88 => ?_) (fun c_88 => ?_)
    · have e8 : t_nf 8 w = [48 + ((w % 10 : Nat) : Int)] := by show (if 9 < w then _ else _) ++ _ = _; rw [if_neg (by omega)]; rfl
      refine o_iload dJ6_getChars_ba4f3_104 rfl ?_
      refine o_if_eq (tgt := 118) dJ6_getChars_ba4f3_106 (by decide) ⟨by omega, by omega⟩ (fun _ => ?_) (fun c => absurd rfl c)
      refine o_iload dJ6_getChars_ba4f3_118 rfl ?_
      refine o_ret1 dJ6_getChars_ba4f3_120 trivial ?_
      rw [e8] at hp hl
      have hl : 1 ≤ cp := hl
      have h9 := hp g_84 ⟨fun x hx => by rw [e_84, o_e_n hx], fun j => by
        show g_84 191 j = if cp - 1 ≤ j ∧ j < cp - 1 + 1 then _ else _
        rw [e_84]
        by_cases q : j = cp - 1
        · rw [if_pos (by omega), q, o_e_s]
          show _ = [48 + ((w % 10 : Nat) : Int)].getD (cp - 1 - (cp - 1)) 0
          rw [Nat.sub_self]; rfl
        · rw [if_neg (by omega), o_e_k q]⟩
      rw [show ((cp : Int) + -1) = ((cp - 1 : Nat) : Int) by omega]
      exact h9
    · have e8 : t_nf 8 w = [48 + ((w / 10 : Nat) : Int)] ++ [48 + ((w % 10 : Nat) : Int)] := by
        have e1 : t_nf 8 w = t_nf 7 (w / 10) ++ [48 + ((w % 10 : Nat) : Int)] := by
          show (if 9 < w then _ else _) ++ _ = _
          rw [if_pos (by omega)]
        have e2 : t_nf 7 (w / 10) = [48 + ((w / 10 : Nat) : Int)] := by
          show (if 9 < w / 10 then _ else _) ++ _ = _
          rw [if_neg (by omega), show w / 10 % 10 = w / 10 by omega]; rfl
        rw [e1, e2]
      rw [e8] at hp hl
      have hl : 2 ≤ cp := hl
      refine o_aload_n dJ6_getChars_ba4f3_91 rfl ?_
      refine o_iinc dJ6_getChars_ba4f3_92 rfl (by decide) ?_
      refine o_iload dJ6_getChars_ba4f3_95 rfl ?_
      refine o_gs dJ6_getChars_ba4f3_97 (o_gT (i := 1221) (by decide +kernel) rfl) z_D2 ?_
      refine o_iload_n dJ6_getChars_ba4f3_100 rfl ?_
      refine o_ineg dJ6_getChars_ba4f3_101 ?_
      rw [show (- -(w : Int)) = (w : Int) by omega]
      refine o_tbC (z := o_I (48 + ((w / 10 : Nat) : Int))) dJ6_getChars_ba4f3_102 z_D2t (by omega) (by omega) (by decide) (by rw [Int.toNat_natCast, o_nI]; congr 2) ?_
      have k9 : g_84 190 9 = c := by rw [e_84, o_e_n (by decide)]; exact hg9
      refine o_baE (len := c) dJ6_getChars_ba4f3_103 (by rw [o_m191, k9, Int.toNat_natCast]) (by decide) (by omega) (by omega) (by omega) (by omega) (by omega) (fun _ => by show _ = Sum.inl (3, (g_84 190 9).toNat, _); rw [k9, Int.toNat_natCast]) (by decide) (fun g_103 e_103 => ?_)
      rw [show ((cp : Int) + -1 + -1).toNat = cp - 2 by omega] at e_103
      refine o_iload dJ6_getChars_ba4f3_104 rfl ?_
      refine o_if_eq (tgt := 118) dJ6_getChars_ba4f3_106 (by decide) ⟨by omega, by omega⟩ (fun _ => ?_) (fun c => absurd rfl c)
      refine o_iload dJ6_getChars_ba4f3_118 rfl ?_
      refine o_ret1 dJ6_getChars_ba4f3_120 trivial ?_
      have h9 := hp g_103 (o_wr_2 (L := []) e_84 e_103 (by omega) (by show cp - 2 + 0 = cp - 2; omega) ⟨fun x hx => rfl, fun j => by rw [if_neg (by show ¬ (cp - 2 ≤ j ∧ j < cp - 2 + 0); omega)]⟩)
      rw [show ((cp : Int) + -1 + -1) = ((cp - 2 : Nat) : Int) by omega]
      exact h9
  | succ f ih =>
    intro w cp g hw hw2 hl hcp hg9 hp
    have hl1 : 1 ≤ (t_nf 8 w).length := t_nf_pos 7 w
    refine o_iload_n dJ6_getChars_ba4f3_22 rfl ?_
    refine o_bipush dJ6_getChars_ba4f3_23 (by decide) ?_
    refine o_icmp_gt (tgt := 72) dJ6_getChars_ba4f3_25 (by decide) ⟨by omega, by omega⟩ ⟨by decide, by decide⟩ (fun c_25 => ?_) (fun c_25 => ?_)
    · skip
      refine o_aload_n dJ6_getChars_ba4f3_72 rfl ?_
      refine o_iinc dJ6_getChars_ba4f3_73 rfl (by decide) ?_
      refine o_iload dJ6_getChars_ba4f3_76 rfl ?_
      refine o_gs dJ6_getChars_ba4f3_78 (o_gT (i := 1219) (by decide +kernel) rfl) z_D1 ?_
      refine o_iload_n dJ6_getChars_ba4f3_81 rfl ?_
      refine o_ineg dJ6_getChars_ba4f3_82 ?_
      rw [show (- -(w : Int)) = (w : Int) by omega]
      refine o_tbC (z := o_I (48 + ((w % 10 : Nat) : Int))) dJ6_getChars_ba4f3_83 z_D1t (by omega) (by omega) (by decide) (by rw [Int.toNat_natCast, o_nI]; congr 2) ?_
      refine o_baE (len := c) dJ6_getChars_ba4f3_84 (by rw [o_m191, hg9, Int.toNat_natCast]) (by decide) (by omega) (by omega) (by omega) (by omega) (by omega) (fun _ => by show _ = Sum.inl (3, (g 190 9).toNat, _); rw [hg9, Int.toNat_natCast]) (by decide) (fun g_84 e_84 => ?_)
      rw [show ((cp : Int) + -1).toNat = cp - 1 by omega] at e_84
      refine o_iload_n dJ6_getChars_ba4f3_85 rfl ?_
      refine o_bipush dJ6_getChars_ba4f3_86 (by decide) ?_
      refine o_icmp_ge (tgt := 104) dJ6_getChars_ba4f3_88 (by decide) ⟨by omega, by omega⟩ ⟨by decide, by decide⟩ (fun c_88 => ?_) (fun c_88 => ?_)
      · have e8 : t_nf 8 w = [48 + ((w % 10 : Nat) : Int)] := by show (if 9 < w then _ else _) ++ _ = _; rw [if_neg (by omega)]; rfl
        refine o_iload dJ6_getChars_ba4f3_104 rfl ?_
        refine o_if_eq (tgt := 118) dJ6_getChars_ba4f3_106 (by decide) ⟨by omega, by omega⟩ (fun _ => ?_) (fun c => absurd rfl c)
        refine o_iload dJ6_getChars_ba4f3_118 rfl ?_
        refine o_ret1 dJ6_getChars_ba4f3_120 trivial ?_
        rw [e8] at hp hl
        have hl : 1 ≤ cp := hl
        have h9 := hp g_84 ⟨fun x hx => by rw [e_84, o_e_n hx], fun j => by
          show g_84 191 j = if cp - 1 ≤ j ∧ j < cp - 1 + 1 then _ else _
          rw [e_84]
          by_cases q : j = cp - 1
          · rw [if_pos (by omega), q, o_e_s]
            show _ = [48 + ((w % 10 : Nat) : Int)].getD (cp - 1 - (cp - 1)) 0
            rw [Nat.sub_self]; rfl
          · rw [if_neg (by omega), o_e_k q]⟩
        rw [show ((cp : Int) + -1) = ((cp - 1 : Nat) : Int) by omega]
        exact h9
      · have e8 : t_nf 8 w = [48 + ((w / 10 : Nat) : Int)] ++ [48 + ((w % 10 : Nat) : Int)] := by
          have e1 : t_nf 8 w = t_nf 7 (w / 10) ++ [48 + ((w % 10 : Nat) : Int)] := by
            show (if 9 < w then _ else _) ++ _ = _
            rw [if_pos (by omega)]
          have e2 : t_nf 7 (w / 10) = [48 + ((w / 10 : Nat) : Int)] := by
            show (if 9 < w / 10 then _ else _) ++ _ = _
            rw [if_neg (by omega), show w / 10 % 10 = w / 10 by omega]; rfl
          rw [e1, e2]
        rw [e8] at hp hl
        have hl : 2 ≤ cp := hl
        refine o_aload_n dJ6_getChars_ba4f3_91 rfl ?_
        refine o_iinc dJ6_getChars_ba4f3_92 rfl (by decide) ?_
        refine o_iload dJ6_getChars_ba4f3_95 rfl ?_
        refine o_gs dJ6_getChars_ba4f3_97 (o_gT (i := 1221) (by decide +kernel) rfl) z_D2 ?_
        refine o_iload_n dJ6_getChars_ba4f3_100 rfl ?_
        refine o_ineg dJ6_getChars_ba4f3_101 ?_
        rw [show (- -(w : Int)) = (w : Int) by omega]
        refine o_tbC (z := o_I (48 + ((w / 10 : Nat) : Int))) dJ6_getChars_ba4f3_102 z_D2t (by omega) (by omega) (by decide) (by rw [Int.toNat_natCast, o_nI]; congr 2) ?_
        have k9 : g_84 190 9 = c := by rw [e_84, o_e_n (by decide)]; exact hg9
        refine o_baE (len := c) dJ6_getChars_ba4f3_103 (by rw [o_m191, k9, Int.toNat_natCast]) (by decide) (by omega) (by omega) (by omega) (by omega) (by omega) (fun _ => by show _ = Sum.inl (3, (g_84 190 9).toNat, _); rw [k9, Int.toNat_natCast]) (by decide) (fun g_103 e_103 => ?_)
        rw [show ((cp : Int) + -1 + -1).toNat = cp - 2 by omega] at e_103
        refine o_iload dJ6_getChars_ba4f3_104 rfl ?_
        refine o_if_eq (tgt := 118) dJ6_getChars_ba4f3_106 (by decide) ⟨by omega, by omega⟩ (fun _ => ?_) (fun c => absurd rfl c)
        refine o_iload dJ6_getChars_ba4f3_118 rfl ?_
        refine o_ret1 dJ6_getChars_ba4f3_120 trivial ?_
        have h9 := hp g_103 (o_wr_2 (L := []) e_84 e_103 (by omega) (by show cp - 2 + 0 = cp - 2; omega) ⟨fun x hx => rfl, fun j => by rw [if_neg (by show ¬ (cp - 2 ≤ j ∧ j < cp - 2 + 0); omega)]⟩)
        rw [show ((cp : Int) + -1 + -1) = ((cp - 2 : Nat) : Int) by omega]
        exact h9
    · have h100 : 100 ≤ w := by omega
      have e8 := t_nf_2 h100 hw2
      have el : (t_nf 8 w).length = (t_nf 8 (w / 100)).length + 2 := by rw [e8, List.length_append, List.length_append]; rfl
      refine o_iload_n dJ6_getChars_ba4f3_28 rfl ?_
      refine o_bipush dJ6_getChars_ba4f3_29 (by decide) ?_
      refine o_idivN hw2 dJ6_getChars_ba4f3_31 ?_
      refine o_istore_n dJ6_getChars_ba4f3_32 (by decide) ?_
      refine o_iload_n dJ6_getChars_ba4f3_33 rfl ?_
      refine o_bipush dJ6_getChars_ba4f3_34 (by decide) ?_
      refine o_imul dJ6_getChars_ba4f3_36 ?_
      refine o_iload_n dJ6_getChars_ba4f3_37 rfl ?_
      refine o_isub dJ6_getChars_ba4f3_38 ?_
      rw [show (-((w / 100 : Nat) : Int) * 100 - -(w : Int)) = ((w % 100 : Nat) : Int) by omega]
      refine o_istore dJ6_getChars_ba4f3_39 (by decide) ?_
      refine o_iload_n dJ6_getChars_ba4f3_41 rfl ?_
      refine o_istore_n dJ6_getChars_ba4f3_42 (by decide) ?_
      refine o_aload_n dJ6_getChars_ba4f3_43 rfl ?_
      refine o_iinc dJ6_getChars_ba4f3_44 rfl (by decide) ?_
      refine o_iload dJ6_getChars_ba4f3_47 rfl ?_
      refine o_gs dJ6_getChars_ba4f3_49 (o_gT (i := 1219) (by decide +kernel) rfl) z_D1 ?_
      refine o_iload dJ6_getChars_ba4f3_52 rfl ?_
      refine o_tbC (z := o_I (48 + ((w % 10 : Nat) : Int))) dJ6_getChars_ba4f3_54 z_D1t (by omega) (by omega) (by decide) (by rw [Int.toNat_natCast, o_nI]; congr 2; omega) ?_
      refine o_baE (len := c) dJ6_getChars_ba4f3_55 (by rw [o_m191, hg9, Int.toNat_natCast]) (by decide) (by omega) (by omega) (by omega) (by omega) (by omega) (fun _ => by show _ = Sum.inl (3, (g 190 9).toNat, _); rw [hg9, Int.toNat_natCast]) (by decide) (fun g_55 e_55 => ?_)
      rw [show ((cp : Int) + -1).toNat = cp - 1 by omega] at e_55
      have k9 : g_55 190 9 = c := by rw [e_55, o_e_n (by decide)]; exact hg9
      refine o_aload_n dJ6_getChars_ba4f3_56 rfl ?_
      refine o_iinc dJ6_getChars_ba4f3_57 rfl (by decide) ?_
      refine o_iload dJ6_getChars_ba4f3_60 rfl ?_
      refine o_gs dJ6_getChars_ba4f3_62 (o_gT (i := 1221) (by decide +kernel) rfl) z_D2 ?_
      refine o_iload dJ6_getChars_ba4f3_65 rfl ?_
      refine o_tbC (z := o_I (48 + ((w / 10 % 10 : Nat) : Int))) dJ6_getChars_ba4f3_67 z_D2t (by omega) (by omega) (by decide) (by rw [Int.toNat_natCast, o_nI]; congr 2; omega) ?_
      refine o_baE (len := c) dJ6_getChars_ba4f3_68 (by rw [o_m191, k9, Int.toNat_natCast]) (by decide) (by omega) (by omega) (by omega) (by omega) (by omega) (fun _ => by show _ = Sum.inl (3, (g_55 190 9).toNat, _); rw [k9, Int.toNat_natCast]) (by decide) (fun g_68 e_68 => ?_)
      rw [show ((cp : Int) + -1 + -1).toNat = cp - 2 by omega] at e_68
      refine o_goto (tgt := 22) dJ6_getChars_ba4f3_69 (by decide) ?_
      refine o_loc [(0, .int (o_I (-((w / 100 : Nat) : Int)))), (1, .int (o_I (ix : Int))), (2, .ref 191), (5, .int (o_I ((cp - 2 : Nat) : Int))), (6, .int (o_I 0))] (by rw [show ((cp : Int) + -1 + -1) = ((cp - 2 : Nat) : Int) by omega]; rfl) ?_
      refine ih (w / 100) (cp - 2) g_68 (by rw [Nat.pow_succ] at hw; omega) (by omega) (by omega) (by omega) (by rw [e_68, o_e_n (by decide)]; exact k9) (fun g' hg' => ?_)
      have h9 := hp g' (by
        rw [el, show cp - ((t_nf 8 (w / 100)).length + 2) = cp - 2 - (t_nf 8 (w / 100)).length by omega, e8]
        exact o_wr_2 e_55 e_68 (by omega) (by omega) hg')
      rw [el, show cp - ((t_nf 8 (w / 100)).length + 2) = cp - 2 - (t_nf 8 (w / 100)).length by omega] at h9
      exact h9
set_option maxRecDepth 100000 in
set_option maxHeartbeats 4000000 in
/-- getChars(v, ix, bytes) -/
theorem ct_J6_getChars_ba4f3 {l : Launch} (hl : l.stackTraces = false) (d : Nat) (g : Nat → Nat → Int) (v ix c : Nat) (hc : c ≤ 220) (hv : v < 10000000) (hlv : (t_nf 8 v).length ≤ ix) (hix : ix ≤ c) (hg9 : g 190 9 = c) : o_Ct l yJ6_getChars_ba4f3 wJ6_getChars_ba4f3 (d + 1) o_no [.int (o_I (v : Int)), .int (o_I (ix : Int)), .ref 191] o_N (o_mem g) 0 0 (o_mt (some (.int (o_I ((ix - (t_nf 8 v).length : Nat) : Int)))) (fun g' => o_wr g (ix - (t_nf 8 v).length) (t_nf 8 v) g')) := by
  refine o_Ct.ofV hl mJ6_getChars_ba4f3 (by decide +kernel) rfl rfl rfl (Nat.le_of_ble_eq_true rfl) ?_
  refine o_iload_n dJ6_getChars_ba4f3_0 rfl ?_
  refine o_istore dJ6_getChars_ba4f3_1 (by decide) ?_
  refine o_iload_n dJ6_getChars_ba4f3_3 rfl ?_
  refine o_if_ge (tgt := 11) dJ6_getChars_ba4f3_4 (by decide) ⟨by omega, by omega⟩ (fun _ => ?_) (fun c => absurd (by omega) c)
  refine o_iconst dJ6_getChars_ba4f3_11 ?_
  refine o_istore dJ6_getChars_ba4f3_12 (by decide) ?_
  refine o_iload dJ6_getChars_ba4f3_14 rfl ?_
  refine o_if_ne (tgt := 22) dJ6_getChars_ba4f3_16 (by decide) ⟨by omega, by omega⟩ (fun c => absurd rfl c) (fun _ => ?_)
  refine o_iload_n dJ6_getChars_ba4f3_19 rfl ?_
  refine o_ineg dJ6_getChars_ba4f3_20 ?_
  refine o_istore_n dJ6_getChars_ba4f3_21 (by decide) ?_
  exact o_loc [(0, .int (o_I (-(v : Int)))), (1, .int (o_I (ix : Int))), (2, .ref 191), (5, .int (o_I (ix : Int))), (6, .int (o_I 0))] rfl (gc_loop ix c hc 3 v ix g (by rw [show (100 : Nat) ^ (3 + 1) = 100000000 by decide]; omega) (by omega) hlv hix hg9 (fun g' hg' => ⟨rfl, rfl, g', rfl, hg'⟩))
theorem o_getD_ap {L A : List Int} {j : Nat} : (L ++ A).getD j 0 = if L.length ≤ j then A.getD (j - L.length) 0 else L.getD j 0 := by
  rw [List.getD_eq_getElem?_getD, List.getD_eq_getElem?_getD, List.getD_eq_getElem?_getD]
  by_cases q : L.length ≤ j
  · rw [if_pos q, List.getElem?_append_right q]
  · rw [if_neg q, List.getElem?_append_left (by omega)]
theorem o_sb_num {g g1 g2 : Nat → Nat → Int} {L A : List Int} (h : o_sb g L) {c9 : Nat} (h9 : g 190 9 = c9) (hl : L.length + A.length ≤ c9) (hA : ∀ c ∈ A, 0 ≤ c ∧ c < 128) (h1 : o_wr g L.length A g1) (e2 : g2 = o_e g1 190 3 ((L.length + A.length : Nat) : Int)) : o_sb g2 (L ++ A) ∧ o_fr o_cB g g2 := by
  obtain ⟨a1, ⟨c1, a2, a3, a4, a5⟩, a6, a7⟩ := h
  have e : c1 = c9 := by omega
  subst e
  have k : ∀ j, j ≠ 3 → g2 190 j = g 190 j := fun j hj => by rw [e2, o_e_k hj, h1.1 190 (by decide)]
  have hlen : (L ++ A).length = L.length + A.length := List.length_append
  refine ⟨⟨by rw [k 1 (by decide)]; exact a1, ⟨c1, by rw [k 9 (by decide)]; exact a2, a3, by rw [hlen]; exact hl, fun j hj => ?_⟩, by rw [e2, o_e_s, hlen], fun j hj => ?_⟩, fun a ha => ?_⟩
  · rw [e2, o_e_n (by decide), h1.2 j]
    split
    · rename_i q
      exact hA _ (o_getD_mem (by omega))
    · exact a5 j hj
  · rw [hlen] at hj
    rw [e2, o_e_n (by decide), h1.2 j, o_getD_ap]
    by_cases q : L.length ≤ j
    · rw [if_pos ⟨q, hj⟩, if_pos q]
    · rw [if_neg (fun z => q z.1), if_neg q, a7 j (by omega)]
  · rw [e2, o_e_n (fun z => ha (Or.inl z)), h1.1 a (fun z => ha (Or.inr z))]
set_option maxRecDepth 100000 in
set_option maxHeartbeats 4000000 in
/-- append(v) -/
theorem ct_J5_append_c97b9 {l : Launch} (hl : l.stackTraces = false) (d : Nat) (g : Nat → Nat → Int) (L : List Int) (hsb : o_sb g L) (v : Nat) (hv : v < 10000000) (hL : L.length ≤ 102) : o_Ct l yJ5_append_c97b9 wJ5_append_c97b9 (d + 4) o_a1 [.ref 190, .int (o_I (v : Int))] o_N (o_mem g) 1 220 (o_mt (some (.ref 190)) (fun g' => o_sb g' (L ++ t_nf 8 v) ∧ o_fr o_cB g g')) := by
  refine o_Ct.ofV hl mJ5_append_c97b9 (by decide +kernel) rfl rfl rfl (Nat.le_of_ble_eq_true rfl) ?_
  have h190 := hsb.2.2.1
  have h7 := t_nf_len 8 v 7 (by rw [t_p7]; exact hv) (by decide)
  refine o_aload_n dJ5_append_c97b9_0 rfl ?_
  refine o_gf dJ5_append_c97b9_1 fl_J5_79 rfl (by decide) rfl ?_
  rw [h190]
  refine o_istore_n dJ5_append_c97b9_4 (by decide) ?_
  refine o_iload_n dJ5_append_c97b9_5 rfl ?_
  refine o_iload_n dJ5_append_c97b9_6 rfl ?_
  refine o_cS _ (ct_J6_stringSize_0f7a4 hl (d + 2) o_N (o_mem g) v hv) dJ5_append_c97b9_7 ml_J5_245 ys_J6_stringSize_0f7a4 rfl (by decide) (by omega) rfl (Nat.le_of_ble_eq_true rfl) ?_
  skip
  refine o_iadd dJ5_append_c97b9_10 ?_
  rw [show ((L.length : Int) + ((t_nf 8 v).length : Int)) = ((L.length + (t_nf 8 v).length : Nat) : Int) by omega]
  refine o_istore_n dJ5_append_c97b9_11 (by decide) ?_
  refine o_aload_n dJ5_append_c97b9_12 rfl ?_
  refine o_iload_n dJ5_append_c97b9_13 rfl ?_
  refine o_cVa RJ4 [.int (o_I (((L.length + (t_nf 8 v).length : Nat) : Int)))] (ct_J5_ensureCapacityInternal_d00df hl d g L hsb (((L.length + (t_nf 8 v).length : Nat) : Int)) ⟨by omega, by omega⟩) dJ5_append_c97b9_14 ml_J5_100 yW_ens rfl (by decide) (by omega) (by omega) (by omega) (o_recW (by decide) rfl rfl) rfl (Nat.le_of_ble_eq_true rfl) rfl rfl (fun g_14 q_14 => ?_)
  obtain ⟨hsb1, f1, c1, hc1, hq1⟩ := q_14
  refine o_aload_n dJ5_append_c97b9_17 rfl ?_
  refine o_cG RJ4 _ (ct_J5_isLatin1_aae02 hl d g_14 hsb1.1) dJ5_append_c97b9_18 ml_J5_83 yW_isL rfl (by decide) (by omega) (o_recW (by decide) rfl rfl) rfl (Nat.le_of_ble_eq_true rfl) ?_
  refine o_if_eq (tgt := 37) dJ5_append_c97b9_21 (by decide) ⟨by omega, by omega⟩ (fun c => absurd c (by decide)) (fun _ => ?_)
  refine o_iload_n dJ5_append_c97b9_24 rfl ?_
  refine o_iload_n dJ5_append_c97b9_25 rfl ?_
  refine o_aload_n dJ5_append_c97b9_26 rfl ?_
  refine o_gf dJ5_append_c97b9_27 fl_J5_15 rfl (by decide) rfl ?_
  refine o_cSm _ (ct_J6_getChars_ba4f3 hl d g_14 v (L.length + (t_nf 8 v).length) c1 (by obtain ⟨a1, ⟨c2, a2, a3, a4, a5⟩, a6, a7⟩ := id hsb1; omega) hv (by omega) (by omega) hc1) dJ5_append_c97b9_30 ml_J5_248 ys_J6_getChars_ba4f3 rfl (by decide) (by omega) rfl (Nat.le_of_ble_eq_true rfl) (fun g_30 q_30 => ?_)
  refine o_pop dJ5_append_c97b9_33 rfl ?_
  refine o_goto (tgt := 48) dJ5_append_c97b9_34 (by decide) ?_
  refine o_aload_n dJ5_append_c97b9_48 rfl ?_
  refine o_iload_n dJ5_append_c97b9_49 rfl ?_
  refine o_pmE dJ5_append_c97b9_50 fp_J5_79 rfl (by decide) (Nat.le_of_ble_eq_true rfl) rfl rfl (fun _ => rfl) (by decide) (fun g_50 e_50 => ?_)
  refine o_aload_n dJ5_append_c97b9_53 rfl ?_
  refine o_ret1 dJ5_append_c97b9_54 (Or.inr ⟨_, rfl⟩) ?_
  rw [show L.length + (t_nf 8 v).length - (t_nf 8 v).length = L.length by omega] at q_30
  have q := o_sb_num hsb1 hc1 (by omega) (t_nf_ch 8 v) q_30 e_50
  exact ⟨rfl, rfl, g_50, rfl, q.1, o_fr_t f1 q.2⟩
set_option maxRecDepth 100000 in
set_option maxHeartbeats 4000000 in
/-- append(v) -/
theorem ct_J4_append_bf812 {l : Launch} (hl : l.stackTraces = false) (d : Nat) (g : Nat → Nat → Int) (L : List Int) (hsb : o_sb g L) (v : Nat) (hv : v < 10000000) (hL : L.length ≤ 102) : o_Ct l yJ4_append_bf812 wJ4_append_bf812 (d + 5) o_a1 [.ref 190, .int (o_I (v : Int))] o_N (o_mem g) 1 220 (o_mt (some (.ref 190)) (fun g' => o_sb g' (L ++ t_nf 8 v) ∧ o_fr o_cB g g')) := by
  refine o_Ct.ofV hl mJ4_append_bf812 (by decide +kernel) rfl rfl rfl (Nat.le_of_ble_eq_true rfl) ?_
  refine o_aload_n dJ4_append_bf812_0 rfl ?_
  refine o_iload_n dJ4_append_bf812_1 rfl ?_
  refine o_cSUa [.int (o_I (v : Int))] (ct_J5_append_c97b9 hl d g L hsb v hv hL) dJ4_append_bf812_2 (List.forall_mem_cons.mpr ⟨(o_gT (i := 1210) (by decide +kernel) rfl), List.forall_mem_cons.mpr ⟨(o_gT (i := 1565) (by decide +kernel) rfl), List.forall_mem_cons.mpr ⟨(o_gT (i := 305) (by decide +kernel) rfl), List.forall_mem_cons.mpr ⟨(o_gT (i := 1211) (by decide +kernel) rfl), List.forall_mem_cons.mpr ⟨(o_gT (i := 13) (by decide +kernel) rfl), fun _ h => absurd h List.not_mem_nil⟩⟩⟩⟩⟩) (o_gT (i := 1212) (by decide +kernel) rfl) ⟨by decide, (show Option.map (fun d => d.parameters.length) (parseMethodDescriptor yJ5_append_c97b9.desc) = some 1 by decide)⟩ (by decide) (by omega) (Nat.le_refl _) (Nat.le_refl _) (by decide) rfl rfl rfl (Nat.le_of_ble_eq_true rfl) rfl rfl (fun g_2 q_2 => ?_)
  refine o_pop dJ4_append_bf812_5 rfl ?_
  refine o_aload_n dJ4_append_bf812_6 rfl ?_
  refine o_ret1 dJ4_append_bf812_7 (Or.inr ⟨_, rfl⟩) ?_
  exact ⟨rfl, rfl, _, rfl, q_2⟩
