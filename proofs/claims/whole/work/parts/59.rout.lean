/-! the reference's output -/
def t_nf : Nat → Nat → List Int
  | 0, _ => []
  | f + 1, v => (if 9 < v then t_nf f (v / 10) else []) ++ [48 + ((v % 10 : Nat) : Int)]
def t_num (z : Int) : List Int := t_nf 8 z.toNat
def t_lamp (M : Nat → Nat → Int) (i : Nat) : List Int := (if 0 < i then [32] else []) ++ (t_num (M 4 i) ++ ((if 0 < M 5 i then [115] ++ (t_num (M 5 i - 1) ++ ([101] ++ t_num (M 6 i))) else []) ++ (if 0 ≤ m_pos M i then [114] else [])))
def t_all (M : Nat → Nat → Int) : Nat → List Int
  | 0 => []
  | n + 1 => t_all M n ++ t_lamp M n
theorem t_nf_len : ∀ (f v k : Nat), v < 10 ^ k → 1 ≤ k → (t_nf f v).length ≤ k
  | 0, _, k => fun _ _ => Nat.zero_le k
  | f + 1, v, k => fun hv hk => by
    unfold t_nf
    rw [List.length_append]
    by_cases h : 9 < v
    · rw [if_pos h]
      obtain ⟨k1, rfl⟩ : ∃ k1, k = k1 + 1 := ⟨k - 1, by omega⟩
      have h1 : v / 10 < 10 ^ k1 := by rw [Nat.pow_succ] at hv; omega
      have h2 : 1 ≤ k1 := by
        rcases Nat.eq_zero_or_pos k1 with q | q
        · subst q; simp at hv; omega
        · exact q
      have := t_nf_len f (v / 10) k1 h1 h2
      show _ + 1 ≤ k1 + 1
      omega
    · rw [if_neg h]
      show 0 + 1 ≤ k
      omega
theorem t_nf_pos (f v : Nat) : 1 ≤ (t_nf (f + 1) v).length := by
  unfold t_nf
  rw [List.length_append]
  show 1 ≤ _ + 1
  omega
theorem t_nf_ch : ∀ (f v : Nat), ∀ c ∈ t_nf f v, 0 ≤ c ∧ c < 128
  | 0, _ => fun c hc => by cases hc
  | f + 1, v => fun c hc => by
    unfold t_nf at hc
    rcases List.mem_append.mp hc with q | q
    · by_cases h : 9 < v
      · rw [if_pos h] at q; exact t_nf_ch f _ c q
      · rw [if_neg h] at q; cases q
    · rw [List.mem_singleton.mp q]; omega
theorem t_nf_eq : ∀ (f f' v : Nat), v < 10 ^ f → v < 10 ^ f' → 1 ≤ f → 1 ≤ f' → t_nf f v = t_nf f' v
  | 0, _, _ => fun _ _ h _ => absurd h (by decide)
  | _, 0, _ => fun _ _ _ h => absurd h (by decide)
  | f + 1, f' + 1, v => fun h1 h2 _ _ => by
    unfold t_nf
    by_cases h : 9 < v
    · rw [if_pos h, if_pos h]
      have p1 : 1 ≤ f := by
        rcases Nat.eq_zero_or_pos f with q | q
        · subst q; simp at h1; omega
        · exact q
      have p2 : 1 ≤ f' := by
        rcases Nat.eq_zero_or_pos f' with q | q
        · subst q; simp at h2; omega
        · exact q
      rw [t_nf_eq f f' (v / 10) (by rw [Nat.pow_succ] at h1; omega) (by rw [Nat.pow_succ] at h2; omega) p1 p2]
    · rw [if_neg h, if_neg h]
theorem t_p7 : (10 : Nat) ^ 7 = 10000000 := by decide
theorem t_num_l1 {z : Int} (h : z < 10) : (t_num z).length ≤ 1 := t_nf_len 8 z.toNat 1 (by omega) (Nat.le_refl 1)
theorem t_num_l7 {z : Int} (h : z < 10000000) : (t_num z).length ≤ 7 := t_nf_len 8 z.toNat 7 (by rw [t_p7]; omega) (by decide)
theorem t_lamp_l {M : Nat → Nat → Int} (h : o_wf M) {i : Nat} (hi : (i : Int) < M 0 1) : (t_lamp M i).length ≤ 13 := by
  have hl := h.1.2.1.2.2.2.2 i hi
  have h3 := h.2.1
  have h4 := h.1.2.1.2.2.1
  have a1 := t_num_l1 (z := M 4 i) (by omega)
  have a2 := t_num_l1 (z := M 5 i - 1) (by omega)
  have a3 := t_num_l7 (z := M 6 i) (by omega)
  unfold t_lamp
  rw [List.length_append, List.length_append, List.length_append]
  have b1 : (if 0 < i then [(32 : Int)] else []).length ≤ 1 := by split <;> simp
  have b2 : (if 0 < M 5 i then [(115 : Int)] ++ (t_num (M 5 i - 1) ++ ([101] ++ t_num (M 6 i))) else []).length ≤ 10 := by
    split
    · rw [List.length_append, List.length_append, List.length_append]
      show 1 + (_ + (1 + _)) ≤ 10
      omega
    · exact Nat.zero_le _
  have b3 : (if 0 ≤ m_pos M i then [(114 : Int)] else []).length ≤ 1 := by split <;> simp
  omega
theorem t_all_l {M : Nat → Nat → Int} (h : o_wf M) : ∀ n : Nat, (n : Int) ≤ M 0 1 → (t_all M n).length ≤ 13 * n
  | 0 => fun _ => Nat.le_refl 0
  | n + 1 => fun hn => by
    have h1 := t_all_l h n (by omega)
    have h2 := t_lamp_l h (i := n) (by omega)
    show (t_all M n ++ t_lamp M n).length ≤ _
    rw [List.length_append]
    omega
def t_out (T : Nat → Nat → Int) (L : List Int) : Nat → Nat → Int := fun a j => if a = 0 ∧ j = 1 then (L.length : Int) else if a = 2 then L.getD j 0 else T a j
/-- the reference's output is L -/
def o_ol (g : Nat → Nat → Int) (L : List Int) : Prop := g 192 9 = L.length ∧ ∀ j, j < L.length → g 198 j = L.getD j 0
def o_pn (g g' : Nat → Nat → Int) : Prop := (∀ a, a ≠ 192 → a ≠ 198 → g' a = g a) ∧ ∀ j, j ≠ 9 → g' 192 j = g 192 j
theorem o_pn_r {g : Nat → Nat → Int} : o_pn g g := ⟨fun _ _ _ => rfl, fun _ _ => rfl⟩
theorem o_pn_t {g g1 g2 : Nat → Nat → Int} (h1 : o_pn g g1) (h2 : o_pn g1 g2) : o_pn g g2 := ⟨fun a h i => (h2.1 a h i).trans (h1.1 a h i), fun j a => (h2.2 j a).trans (h1.2 j a)⟩
theorem o_getD_app {L : List Int} {c : Int} {j : Nat} (hj : j < (L ++ [c]).length) : (L ++ [c]).getD j 0 = if j = L.length then c else L.getD j 0 := by
  rw [List.length_append] at hj
  have hj : j < L.length + 1 := hj
  rw [List.getD_eq_getElem?_getD, List.getD_eq_getElem?_getD]
  by_cases q : j = L.length
  · rw [if_pos q, q, List.getElem?_append_right (Nat.le_refl _), Nat.sub_self]; rfl
  · rw [if_neg q, List.getElem?_append_left (by omega)]
set_option maxRecDepth 100000 in
set_option maxHeartbeats 4000000 in
/-- says(c) -/
theorem ct_X12_says {l : Launch} (hl : l.stackTraces = false) (d : Nat) (g : Nat → Nat → Int) (L : List Int) (hL : o_ol g L) (hl9 : L.length < 120) (c : Int) (hc0 : 0 ≤ c) (hc1 : c < 65536) : o_Ct l yX12_says wX12_says (d + 1) o_no [.ref 192, .int (o_I c)] o_N (o_mem g) 0 0 (o_mt none (fun g' => o_ol g' (L ++ [c]) ∧ o_pn g g')) := by
  refine o_Ct.ofV hl mX12_says (by decide +kernel) rfl rfl rfl (Nat.le_of_ble_eq_true rfl) ?_
  obtain ⟨h1, h2⟩ := hL
  refine o_aload_n dX12_says_0 rfl ?_
  refine o_gf dX12_says_1 fl_X12_25 rfl (by decide) rfl ?_
  refine o_aload_n dX12_says_4 rfl ?_
  refine o_gf dX12_says_5 fl_X12_172 rfl (by decide) rfl ?_
  refine o_iload_n dX12_says_8 rfl ?_
  refine o_caEn (j := L.length) dX12_says_9 rfl (by decide) (by decide) h1 (by omega) (by omega) (by omega) (fun _ => rfl) (by decide) (fun g_9 e_9 => ?_)
  refine o_aload_n dX12_says_10 rfl ?_
  refine o_dup dX12_says_11 rfl ?_
  refine o_gf dX12_says_12 fl_X12_172 rfl (by decide) rfl ?_
  refine o_iconst dX12_says_15 ?_
  refine o_iadd dX12_says_16 ?_
  refine o_pmE dX12_says_17 fp_X12_172 rfl (by decide) (Nat.le_of_ble_eq_true rfl) rfl rfl (fun _ => rfl) (by decide) (fun g_17 e_17 => ?_)
  refine o_ret0 dX12_says_20 trivial ?_
  have v9 : g_17 192 9 = ((L ++ [c]).length : Nat) := by
    rw [e_17, o_e_s, e_9, o_e_n (by decide), h1, List.length_append]; rfl
  refine o_mt0 ⟨⟨v9, fun j hj => ?_⟩, fun a x y => by rw [e_17, o_e_n x, e_9, o_e_n y], fun j x => by rw [e_17, o_e_k x, e_9, o_e_n (by decide)]⟩
  rw [o_getD_app hj, e_17, o_e_n (by decide), e_9]
  rw [List.length_append] at hj
  have hj : j < L.length + 1 := hj
  by_cases q : j = L.length
  · rw [if_pos q, q, o_e_s]
  · rw [if_neg q, o_e_k q]; exact h2 j (by omega)
set_option maxRecDepth 100000 in
set_option maxHeartbeats 4000000 in
theorem ct_X12_saysNumber {l : Launch} (hl : l.stackTraces = false) : ∀ (f d : Nat) (g : Nat → Nat → Int) (L : List Int) (v : Nat), o_ol g L → v < 10 ^ f → 1 ≤ f → f ≤ 8 → L.length + f ≤ 120 → o_Ct l yX12_saysNumber wX12_saysNumber (d + f + 1) o_no [.ref 192, .int (o_I (v : Int))] o_N (o_mem g) 0 0 (o_mt none (fun g' => o_ol g' (L ++ t_nf f v) ∧ o_pn g g')) := by
  intro f
  induction f with
  | zero => intro d g L v hL hv h1; exact absurd h1 (by decide)
  | succ f ih =>
    intro d g L v hL hv h1 h8 hl9
    have hv8 : v < 100000000 := by
      have : (10 : Nat) ^ (f + 1) ≤ 10 ^ 8 := Nat.pow_le_pow_right (by decide) h8
      have h9 : (10 : Nat) ^ 8 = 100000000 := by decide
      omega
    refine o_Ct.ofV hl mX12_saysNumber (by decide +kernel) rfl rfl rfl (Nat.le_of_ble_eq_true rfl) ?_
    refine o_iload_n dX12_saysNumber_0 rfl ?_
    refine o_bipush dX12_saysNumber_1 (by decide) ?_
    refine o_icmp_le (tgt := 14) dX12_saysNumber_3 (by decide) ⟨by omega, by omega⟩ ⟨by omega, by omega⟩ (fun c_3 => ?_) (fun c_3 => ?_)
    · skip
      refine o_aload_n dX12_saysNumber_14 rfl ?_
      refine o_bipush dX12_saysNumber_15 (by decide) ?_
      refine o_iload_n dX12_saysNumber_17 rfl ?_
      refine o_bipush dX12_saysNumber_18 (by decide) ?_
      refine o_irem dX12_saysNumber_20 ⟨by omega, by omega⟩ ⟨by omega, by omega⟩ (by omega) (by omega) ?_
      refine o_iadd dX12_saysNumber_21 ?_
      rw [show (48 + (v : Int) % 10) = 48 + ((v % 10 : Nat) : Int) by omega]
      refine o_i2c dX12_saysNumber_22 ?_
      rw [o_i2cN _ (by omega) (by omega)]
      refine o_cVm _ (ct_X12_says hl (d + f) g L hL (by omega) (48 + ((v % 10 : Nat) : Int)) (by omega) (by omega)) dX12_saysNumber_23 ml_X12_178 yw_X12_says rfl (by decide) (by omega) (by decide) rfl rfl rfl (Nat.le_of_ble_eq_true rfl) (fun g_23 q_23 => ?_)
      refine o_ret0 dX12_saysNumber_26 trivial ?_
      have e9 : t_nf (f + 1) v = [48 + ((v % 10 : Nat) : Int)] := by unfold t_nf; rw [if_neg (by omega)]; rfl
      rw [e9]
      exact o_mt0 q_23
    · skip
      refine o_aload_n dX12_saysNumber_6 rfl ?_
      refine o_iload_n dX12_saysNumber_7 rfl ?_
      refine o_bipush dX12_saysNumber_8 (by decide) ?_
      refine o_idiv dX12_saysNumber_10 ⟨by omega, by omega⟩ ⟨by omega, by omega⟩ (by omega) (by omega) ?_
      have h10 : v / 10 < 10 ^ f := by rw [Nat.pow_succ] at hv; omega
      have hf1 : 1 ≤ f := by
        rcases Nat.eq_zero_or_pos f with q | q
        · subst q; simp at hv; omega
        · exact q
      rw [show ((v : Int) / 10) = ((v / 10 : Nat) : Int) by omega]
      refine o_cVm _ (ih d g L (v / 10) hL h10 hf1 (by omega) (by omega)) dX12_saysNumber_11 ml_X12_175 yw_X12_saysNumber rfl (by decide) (by omega) (by decide) rfl rfl rfl (Nat.le_of_ble_eq_true rfl) (fun g_11 q_11 => ?_)
      obtain ⟨hL1, f1⟩ := q_11
      have hlen := t_nf_len f (v / 10) f h10 hf1
      refine o_aload_n dX12_saysNumber_14 rfl ?_
      refine o_bipush dX12_saysNumber_15 (by decide) ?_
      refine o_iload_n dX12_saysNumber_17 rfl ?_
      refine o_bipush dX12_saysNumber_18 (by decide) ?_
      refine o_irem dX12_saysNumber_20 ⟨by omega, by omega⟩ ⟨by omega, by omega⟩ (by omega) (by omega) ?_
      refine o_iadd dX12_saysNumber_21 ?_
      rw [show (48 + (v : Int) % 10) = 48 + ((v % 10 : Nat) : Int) by omega]
      refine o_i2c dX12_saysNumber_22 ?_
      rw [o_i2cN _ (by omega) (by omega)]
      refine o_cVm _ (ct_X12_says hl (d + f) g_11 (L ++ t_nf f (v / 10)) hL1 (by rw [List.length_append]; omega) (48 + ((v % 10 : Nat) : Int)) (by omega) (by omega)) dX12_saysNumber_23 ml_X12_178 yw_X12_says rfl (by decide) (by omega) (by decide) rfl rfl rfl (Nat.le_of_ble_eq_true rfl) (fun g_23 q_23 => ?_)
      refine o_ret0 dX12_saysNumber_26 trivial ?_
      have e9 : t_nf (f + 1) v = t_nf f (v / 10) ++ [48 + ((v % 10 : Nat) : Int)] := by show (if 9 < v then _ else _) ++ _ = _; rw [if_pos (by omega)]
      rw [e9, ← List.append_assoc]
      exact o_mt0 ⟨q_23.1, o_pn_t f1 q_23.2⟩
set_option maxRecDepth 100000 in
set_option maxHeartbeats 4000000 in
/-- writeLamps() -/
theorem ct_X12_writeLamps {l : Launch} (hl : l.stackTraces = false) (d : Nat) (g M : Nat → Nat → Int) (P : List (Nat → Nat → Int)) (S : Option (Nat → Nat → Int)) (T : Nat → Nat → Int) (hmd : o_md g M P S T) (hwf : o_wf M) : o_Ct l yX12_writeLamps wX12_writeLamps (d + 12) o_no [.ref 192] o_N (o_mem g) 0 0 (r_x 0 ((t_all M (M 0 1).toNat).length : Int) M P S (t_out T (t_all M (M 0 1).toNat)) g) := by
  refine o_Ct.ofV hl mX12_writeLamps (by decide +kernel) rfl rfl rfl (Nat.le_of_ble_eq_true rfl) ?_
  have hwk := hwf.1
  have hw0 := hwk.2.1.1
  have hw8 := hwk.2.1.2.1
  have key : ∀ g2 : Nat → Nat → Int, (∀ a, a ≠ 192 → g2 a = g a) → (∀ j, j ≠ 7 → j ≠ 9 → g2 192 j = g 192 j) → g2 192 7 = 0 → ∀ i, i ≤ (M 0 1).toNat → ∀ g1, o_pn g2 g1 → o_ol g1 (t_all M i) → o_V l mX12_writeLamps (d + 12) o_no (r_x 0 ((t_all M (M 0 1).toNat).length : Int) M P S (t_out T (t_all M (M 0 1).toNat)) g) 12 [(0, .ref 192), (1, .int (o_I (i : Int)))] [] o_N (o_mem g1) 0 0 := fun g2 c2 j2 s2 => o_lp (fun i => ∀ g1, o_pn g2 g1 → o_ol g1 (t_all M i) → o_V l mX12_writeLamps (d + 12) o_no (r_x 0 ((t_all M (M 0 1).toNat).length : Int) M P S (t_out T (t_all M (M 0 1).toNat)) g) 12 [(0, .ref 192), (1, .int (o_I (i : Int)))] [] o_N (o_mem g1) 0 0) (M 0 1).toNat (fun i hi ih g1 f1 hL => by
    obtain ⟨hm1, hm2, hm3, hm4⟩ := id hmd
    have c1 : ∀ a, a ≠ 192 → a ≠ 198 → g1 a = g a := fun a x y => (f1.1 a x y).trans (c2 a x)
    have hsr : o_sr (g1 193) M := by rw [c1 193 (by decide) (by decide)]; exact hm1
    have h01 := hsr.1.2.1
    have rest : (i : Int) < M 0 1 → ∀ (g3 : Nat → Nat → Int) (A : List Int), A.length ≤ 1 → o_pn g1 g3 → o_ol g3 (t_all M i ++ A) → A = (if 0 < i then [32] else []) → o_V l mX12_writeLamps (d + 12) o_no (r_x 0 ((t_all M (M 0 1).toNat).length : Int) M P S (t_out T (t_all M (M 0 1).toNat)) g) 32 [(0, .ref 192), (1, .int (o_I (i : Int)))] [] o_N (o_mem g3) 0 0 := by
      intro hiM g3 A hA f3 hL3 hAe
      have hli := hsr.2.2.1 i hiM
      have hwi := hwk.2.1.2.2.2.2 i hiM
      have hw3 := hwf.2.1
      have hw2 := hwk.2.1.2.2.1
      have hlen := t_all_l hwf i (by omega)
      have a1 := t_num_l1 (z := M 4 i) (by omega)
      have a2 := t_num_l1 (z := M 5 i - 1) (by omega)
      have a3 := t_num_l7 (z := M 6 i) (by omega)
      have s3 : ∀ g4, o_pn g3 g4 → g4 193 = g1 193 := fun g4 f4 => (f4.1 193 (by decide) (by decide)).trans (f3.1 193 (by decide) (by decide))
      have hrf := o_ps_fst (fun k => M 9 k = (i : Int)) (M 0 6).toNat
      have tail : ∀ (g4 : Nat → Nat → Int) (B : List Int), B.length ≤ 10 → o_pn g3 g4 → o_ol g4 (t_all M i ++ A ++ t_num (M 4 i) ++ B) → B = (if 0 < M 5 i then [115] ++ (t_num (M 5 i - 1) ++ ([101] ++ t_num (M 6 i))) else []) → o_V l mX12_writeLamps (d + 12) o_no (r_x 0 ((t_all M (M 0 1).toNat).length : Int) M P S (t_out T (t_all M (M 0 1).toNat)) g) 84 [(0, .ref 192), (1, .int (o_I (i : Int)))] [] o_N (o_mem g4) 0 0 := by
        intro g4 B hB f4 hL4 hBe
        have hmR : -1 ≤ m_pos M i ∧ m_pos M i ≤ 8 := by
          rcases hrf with ⟨q, -⟩ | ⟨k, q, q2, -⟩
          · have q : m_pos M i = -1 := q; omega
          · have q : m_pos M i = k := q
            have := hwk.2.2.1.2.1
            omega
        refine o_aload_n dX12_writeLamps_84 rfl ?_
        refine o_iload_n dX12_writeLamps_85 rfl ?_
        refine o_cV _ (ct_X12_requestFor hl (d + 9) g4 M (by rw [s3 g4 f4]; exact hsr) hwk i (by omega) (m_pos M i) hrf) dX12_writeLamps_86 ml_X12_62 yw_X12_requestFor rfl (by decide) (by omega) (by decide) rfl rfl rfl (Nat.le_of_ble_eq_true rfl) ?_
        refine o_if_lt (tgt := 98) dX12_writeLamps_89 (by decide) ⟨by omega, by omega⟩ (fun c_89 => ?_) (fun c_89 => ?_)
        · skip
          refine o_iinc dX12_writeLamps_98 rfl (by decide) ?_
          refine o_goto (tgt := 12) dX12_writeLamps_101 (by decide) ?_
          exact o_loc [(0, .ref 192), (1, .int (o_I ((i + 1 : Nat) : Int)))] rfl (ih (by omega) g4 (o_pn_t (o_pn_t f1 f3) f4) (by rw [show t_all M (i + 1) = t_all M i ++ A ++ t_num (M 4 i) ++ B by show t_all M i ++ t_lamp M i = _; unfold t_lamp; rw [← hAe, ← hBe, if_neg (by omega)]; simp only [List.append_assoc, List.append_nil]]; exact hL4))
        · skip
          refine o_aload_n dX12_writeLamps_92 rfl ?_
          refine o_bipush dX12_writeLamps_93 (by decide) ?_
          refine o_cVm _ (ct_X12_says hl (d + 10) g4 (t_all M i ++ A ++ t_num (M 4 i) ++ B) hL4 (by (try simp only [List.length_append, List.length_singleton]); omega) 114 (by decide) (by decide)) dX12_writeLamps_95 ml_X12_178 yw_X12_says rfl (by decide) (by omega) (by decide) rfl rfl rfl (Nat.le_of_ble_eq_true rfl) (fun g_95 q_95 => ?_)
          refine o_iinc dX12_writeLamps_98 rfl (by decide) ?_
          refine o_goto (tgt := 12) dX12_writeLamps_101 (by decide) ?_
          exact o_loc [(0, .ref 192), (1, .int (o_I ((i + 1 : Nat) : Int)))] rfl (ih (by omega) g_95 (o_pn_t (o_pn_t (o_pn_t f1 f3) f4) q_95.2) (by rw [show t_all M (i + 1) = t_all M i ++ A ++ t_num (M 4 i) ++ B ++ [114] by show t_all M i ++ t_lamp M i = _; unfold t_lamp; rw [← hAe, ← hBe, if_pos (by omega)]; simp only [List.append_assoc, List.append_nil]]; exact q_95.1))
      refine o_aload_n dX12_writeLamps_32 rfl ?_
      refine o_aload_n dX12_writeLamps_33 rfl ?_
      refine o_iload_n dX12_writeLamps_34 rfl ?_
      refine o_iconst dX12_writeLamps_35 ?_
      refine o_cV _ (ct_X12_of hl (d + 10) g3 i 0 (by omega) (by decide)) dX12_writeLamps_36 ml_X12_58 yw_X12_of rfl (by decide) (by omega) (by decide) rfl rfl rfl (Nat.le_of_ble_eq_true rfl) ?_
      rw [s3 g3 o_pn_r, show g1 193 (25 + 5 * i + 0) = M 4 i from hli.1]
      obtain ⟨v39, hv39⟩ : ∃ v : Nat, (v : Int) = M 4 i := ⟨(M 4 i).toNat, by omega⟩
      rw [← hv39]
      refine o_cVm _ (ct_X12_saysNumber hl 7 (d + 3) g3 (t_all M i ++ A) v39 hL3 (by rw [t_p7]; omega) (by decide) (by decide) (by simp only [List.length_append, List.length_singleton]; omega)) dX12_writeLamps_39 ml_X12_175 yw_X12_saysNumber rfl (by decide) (by omega) (by decide) rfl rfl rfl (Nat.le_of_ble_eq_true rfl) (fun g_39 q_39 => ?_)
      have e39 : t_nf 7 v39 = t_num (M 4 i) := by
        have h7 : (10 : Nat) ^ 7 = 10000000 := by decide
        have h8 : (10 : Nat) ^ 8 = 100000000 := by decide
        unfold t_num
        rw [← hv39, Int.toNat_natCast]
        exact t_nf_eq 7 8 v39 (by omega) (by omega) (by decide) (by decide)
      rw [e39] at q_39
      refine o_aload_n dX12_writeLamps_42 rfl ?_
      refine o_iload_n dX12_writeLamps_43 rfl ?_
      refine o_cV _ (ct_X12_isOut hl (d + 9) g_39 M (by rw [s3 g_39 q_39.2]; exact hsr) hwk i hiM) dX12_writeLamps_44 ml_X12_96 yw_X12_isOut rfl (by decide) (by omega) (by decide) rfl rfl rfl (Nat.le_of_ble_eq_true rfl) ?_
      refine o_ifb_eq (tgt := 84) dX12_writeLamps_47 (by decide) (fun c_47 => ?_) (fun c_47 => ?_)
      · skip
        exact o_loc _ rfl (tail g_39 [] (Nat.zero_le _) q_39.2 (by rw [List.append_nil]; exact q_39.1) (by rw [if_neg c_47]))
      · skip
        refine o_aload_n dX12_writeLamps_50 rfl ?_
        refine o_bipush dX12_writeLamps_51 (by decide) ?_
        refine o_cVm _ (ct_X12_says hl (d + 10) g_39 (t_all M i ++ A ++ t_num (M 4 i)) q_39.1 (by (try simp only [List.length_append, List.length_singleton]); omega) 115 (by decide) (by decide)) dX12_writeLamps_53 ml_X12_178 yw_X12_says rfl (by decide) (by omega) (by decide) rfl rfl rfl (Nat.le_of_ble_eq_true rfl) (fun g_53 q_53 => ?_)
        refine o_aload_n dX12_writeLamps_56 rfl ?_
        refine o_aload_n dX12_writeLamps_57 rfl ?_
        refine o_iload_n dX12_writeLamps_58 rfl ?_
        refine o_iconst dX12_writeLamps_59 ?_
        refine o_cV _ (ct_X12_of hl (d + 10) g_53 i 1 (by omega) (by decide)) dX12_writeLamps_60 ml_X12_58 yw_X12_of rfl (by decide) (by omega) (by decide) rfl rfl rfl (Nat.le_of_ble_eq_true rfl) ?_
        refine o_iconst dX12_writeLamps_63 ?_
        refine o_isub dX12_writeLamps_64 ?_
        rw [s3 g_53 (o_pn_t q_39.2 q_53.2), hli.2.1]
        obtain ⟨v65, hv65⟩ : ∃ v : Nat, (v : Int) = M 5 i - 1 := ⟨(M 5 i - 1).toNat, by omega⟩
        rw [← hv65]
        refine o_cVm _ (ct_X12_saysNumber hl 7 (d + 3) g_53 (t_all M i ++ A ++ t_num (M 4 i) ++ [115]) v65 q_53.1 (by rw [t_p7]; omega) (by decide) (by decide) (by simp only [List.length_append, List.length_singleton]; omega)) dX12_writeLamps_65 ml_X12_175 yw_X12_saysNumber rfl (by decide) (by omega) (by decide) rfl rfl rfl (Nat.le_of_ble_eq_true rfl) (fun g_65 q_65 => ?_)
        have e65 : t_nf 7 v65 = t_num (M 5 i - 1) := by
          have h7 : (10 : Nat) ^ 7 = 10000000 := by decide
          have h8 : (10 : Nat) ^ 8 = 100000000 := by decide
          unfold t_num
          rw [← hv65, Int.toNat_natCast]
          exact t_nf_eq 7 8 v65 (by omega) (by omega) (by decide) (by decide)
        rw [e65] at q_65
        refine o_aload_n dX12_writeLamps_68 rfl ?_
        refine o_bipush dX12_writeLamps_69 (by decide) ?_
        refine o_cVm _ (ct_X12_says hl (d + 10) g_65 (t_all M i ++ A ++ t_num (M 4 i) ++ [115] ++ t_num (M 5 i - 1)) q_65.1 (by (try simp only [List.length_append, List.length_singleton]); omega) 101 (by decide) (by decide)) dX12_writeLamps_71 ml_X12_178 yw_X12_says rfl (by decide) (by omega) (by decide) rfl rfl rfl (Nat.le_of_ble_eq_true rfl) (fun g_71 q_71 => ?_)
        refine o_aload_n dX12_writeLamps_74 rfl ?_
        refine o_aload_n dX12_writeLamps_75 rfl ?_
        refine o_iload_n dX12_writeLamps_76 rfl ?_
        refine o_iconst dX12_writeLamps_77 ?_
        refine o_cV _ (ct_X12_of hl (d + 10) g_71 i 2 (by omega) (by decide)) dX12_writeLamps_78 ml_X12_58 yw_X12_of rfl (by decide) (by omega) (by decide) rfl rfl rfl (Nat.le_of_ble_eq_true rfl) ?_
        rw [s3 g_71 (o_pn_t (o_pn_t (o_pn_t q_39.2 q_53.2) q_65.2) q_71.2), hli.2.2.1]
        obtain ⟨v81, hv81⟩ : ∃ v : Nat, (v : Int) = M 6 i := ⟨(M 6 i).toNat, by omega⟩
        rw [← hv81]
        refine o_cVm _ (ct_X12_saysNumber hl 7 (d + 3) g_71 (t_all M i ++ A ++ t_num (M 4 i) ++ [115] ++ t_num (M 5 i - 1) ++ [101]) v81 q_71.1 (by rw [t_p7]; omega) (by decide) (by decide) (by simp only [List.length_append, List.length_singleton]; omega)) dX12_writeLamps_81 ml_X12_175 yw_X12_saysNumber rfl (by decide) (by omega) (by decide) rfl rfl rfl (Nat.le_of_ble_eq_true rfl) (fun g_81 q_81 => ?_)
        have e81 : t_nf 7 v81 = t_num (M 6 i) := by
          have h7 : (10 : Nat) ^ 7 = 10000000 := by decide
          have h8 : (10 : Nat) ^ 8 = 100000000 := by decide
          unfold t_num
          rw [← hv81, Int.toNat_natCast]
          exact t_nf_eq 7 8 v81 (by omega) (by omega) (by decide) (by decide)
        rw [e81] at q_81
        exact o_loc _ rfl (tail g_81 ([115] ++ (t_num (M 5 i - 1) ++ ([101] ++ t_num (M 6 i)))) (by simp only [List.length_append, List.length_singleton]; omega) (o_pn_t (o_pn_t (o_pn_t (o_pn_t q_39.2 q_53.2) q_65.2) q_71.2) q_81.2) (by have := q_81.1; simp only [List.append_assoc] at this ⊢; exact this) (by rw [if_pos c_47]))
    refine o_iload_n dX12_writeLamps_12 rfl ?_
    refine o_aload_n dX12_writeLamps_13 rfl ?_
    refine o_gf dX12_writeLamps_14 fl_X12_9 rfl (by decide) rfl ?_
    refine o_iconst dX12_writeLamps_17 ?_
    refine o_ialdn (j := 1) dX12_writeLamps_18 (by decide) rfl (by decide) (by first | rfl | omega) (by omega) ?_
    rw [h01]
    refine o_icmp_ge (tgt := 104) dX12_writeLamps_19 (by decide) ⟨by omega, by omega⟩ ⟨by omega, by omega⟩ (fun c_19 => ?_) (fun c_19 => ?_)
    · skip
      refine o_aload_n dX12_writeLamps_104 rfl ?_
      refine o_gf dX12_writeLamps_105 fl_X12_172 rfl (by decide) rfl ?_
      refine o_ret1 dX12_writeLamps_108 trivial ?_
      have hiN : i = (M 0 1).toNat := by omega
      rw [← hiN]
      obtain ⟨t1, t2, t3, t4, t5, t6, t7⟩ := hm4
      have j1 : ∀ j, j ≠ 7 → j ≠ 9 → g1 192 j = g 192 j := fun j x y => (f1.2 j y).trans (j2 j x y)
      refine r_xI hL.1.symm ⟨(f1.2 7 (by decide)).trans s2, ⟨hsr, r_m2_c hm2 (j1 6 (by decide) (by decide)) (c1 197 (by decide) (by decide)), r_m3_c hm3 (j1 4 (by decide) (by decide)) (c1 196 (by decide) (by decide)), (j1 11 (by decide) (by decide)).trans t1, fun j hj => by rw [c1 199 (by decide) (by decide)]; exact t2 j hj, hL.1, fun j hj => hL.2 j (by have hj : (j : Int) < ((t_all M i).length : Int) := hj; omega), (j1 14 (by decide) (by decide)).trans t5, (j1 15 (by decide) (by decide)).trans t6, (j1 16 (by decide) (by decide)).trans t7⟩, fun a ha => c1 a (fun z => ha ⟨by omega, by omega⟩) (fun z => ha ⟨by omega, by omega⟩)⟩
    · skip
      have hiM : (i : Int) < M 0 1 := by omega
      have hli := hsr.2.2.1 i hiM
      have hwi := hwk.2.1.2.2.2.2 i hiM
      have hw3 := hwf.2.1
      have hw2 := hwk.2.1.2.2.1
      have hlen := t_all_l hwf i (by omega)
      refine o_iload_n dX12_writeLamps_22 rfl ?_
      refine o_if_le (tgt := 32) dX12_writeLamps_23 (by decide) ⟨by omega, by omega⟩ (fun c_23 => ?_) (fun c_23 => ?_)
      · skip
        exact o_loc _ rfl (rest hiM g1 [] (Nat.zero_le _) o_pn_r (by rw [List.append_nil]; exact hL) (by rw [if_neg (by omega)]))
      · skip
        refine o_aload_n dX12_writeLamps_26 rfl ?_
        refine o_bipush dX12_writeLamps_27 (by decide) ?_
        refine o_cVm _ (ct_X12_says hl (d + 10) g1 (t_all M i) hL (by (try simp only [List.length_append, List.length_singleton]); omega) 32 (by decide) (by decide)) dX12_writeLamps_29 ml_X12_178 yw_X12_says rfl (by decide) (by omega) (by decide) rfl rfl rfl (Nat.le_of_ble_eq_true rfl) (fun g_29 q_29 => ?_)
        exact o_loc _ rfl (rest hiM g_29 [32] (Nat.le_refl _) q_29.2 q_29.1 (by rw [if_pos (by omega)])))
  refine o_aload_n dX12_writeLamps_0 rfl ?_
  refine o_iconst dX12_writeLamps_1 ?_
  refine o_pmE dX12_writeLamps_2 fp_X12_42 rfl (by decide) (Nat.le_of_ble_eq_true rfl) rfl rfl (fun _ => rfl) (by decide) (fun g_2 e_2 => ?_)
  refine o_aload_n dX12_writeLamps_5 rfl ?_
  refine o_iconst dX12_writeLamps_6 ?_
  refine o_pmE dX12_writeLamps_7 fp_X12_172 rfl (by decide) (Nat.le_of_ble_eq_true rfl) rfl rfl (fun _ => rfl) (by decide) (fun g_7 e_7 => ?_)
  refine o_iconst dX12_writeLamps_10 ?_
  refine o_istore_n dX12_writeLamps_11 (by decide) ?_
  exact o_loc [(0, .ref 192), (1, .int (o_I ((0 : Nat) : Int)))] rfl (key g_7 (fun a x => by rw [e_7, o_e_n x, e_2, o_e_n x]) (fun j x y => by rw [e_7, o_e_k y, e_2, o_e_k x]) (by rw [e_7, o_e_k (by decide), e_2, o_e_s]) 0 (Nat.zero_le _) g_7 o_pn_r ⟨by rw [e_7, o_e_s]; rfl, fun j hj => absurd hj (Nat.not_lt_zero j)⟩)
set_option maxRecDepth 100000 in
set_option maxHeartbeats 4000000 in
/-- outputChar(i) -/
theorem ct_X12_outputChar {l : Launch} (hl : l.stackTraces = false) (d : Nat) (g M : Nat → Nat → Int) (P : List (Nat → Nat → Int)) (S : Option (Nat → Nat → Int)) (T : Nat → Nat → Int) (hmd : o_md g M P S T) (hwk : o_wk M) (hT1 : 0 ≤ T 0 1 ∧ T 0 1 ≤ 120) (hch : ∀ j : Nat, (j : Int) < T 0 1 → 0 ≤ T 2 j ∧ T 2 j < 128) (i : Int) (hi : o_R i) : o_Ct l yX12_outputChar wX12_outputChar (d + 3) o_no [.ref 192, .int (o_I i)] o_N (o_mem g) 0 0 (r_x (1 - o_b (0 ≤ i ∧ i < T 0 1)) (if 0 ≤ i ∧ i < T 0 1 then T 2 i.toNat else 32) M P S T g) := by
  refine o_Ct.ofV hl mX12_outputChar (by decide +kernel) rfl rfl rfl (Nat.le_of_ble_eq_true rfl) ?_
  obtain ⟨t1, t2, t3, t4, t5, t6, t7⟩ := hmd.2.2.2
  obtain ⟨i1, i2⟩ := id hi
  refine o_aload_n dX12_outputChar_0 rfl ?_
  refine o_iload_n dX12_outputChar_1 rfl ?_
  refine o_iconst dX12_outputChar_2 ?_
  refine o_aload_n dX12_outputChar_3 rfl ?_
  refine o_gf dX12_outputChar_4 fl_X12_172 rfl (by decide) rfl ?_
  refine o_iconst dX12_outputChar_7 ?_
  refine o_isub dX12_outputChar_8 ?_
  rw [t3]
  refine o_cS _ (ct_X12_in hl (d + 1) g i ⟨i1, i2⟩ 0 ⟨by decide, by decide⟩ (T 0 1 - 1) ⟨by omega, by omega⟩) dX12_outputChar_9 ml_X12_54 ys_X12_in rfl (by decide) (by omega) rfl (Nat.le_of_ble_eq_true rfl) ?_
  refine o_cVm _ (ct_X12_isThere hl (d + 1) g (0 ≤ i ∧ i ≤ T 0 1 - 1)) dX12_outputChar_12 ml_X12_144 yw_X12_isThere rfl (by decide) (by omega) (by decide) rfl rfl rfl (Nat.le_of_ble_eq_true rfl) (fun g_12 q_12 => ?_)
  refine o_ifb_eq (tgt := 27) dX12_outputChar_15 (by decide) (fun c_15 => ?_) (fun c_15 => ?_)
  · skip
    refine o_bipush dX12_outputChar_27 (by decide) ?_
    refine o_ret1 dX12_outputChar_29 (by first | exact o_rcN 32 (by decide) (by decide) | exact o_rcN _ (by omega) (by omega)) ?_
    exact r_xq hmd (by rw [if_neg (fun z => c_15 ⟨z.1, by omega⟩)]) (by rw [q_12, o_b0 c_15, o_b0 (fun z => c_15 ⟨z.1, by omega⟩)])
  · skip
    refine o_aload_n dX12_outputChar_18 rfl ?_
    refine o_gf dX12_outputChar_19 fl_X12_25 rfl (by decide) rfl ?_
    refine o_iload_n dX12_outputChar_22 rfl ?_
    obtain ⟨j, rfl⟩ : ∃ j : Nat, (j : Int) = i := ⟨i.toNat, by omega⟩
    refine o_caldn (j := j) dX12_outputChar_23 (by decide) rfl (by decide) rfl (by omega) ?_
    have hgj : g_12 198 j = T 2 j := by rw [q_12, o_e_n (by decide)]; exact t4 j (by omega)
    have hc := hch j (by omega)
    refine o_goto (tgt := 29) dX12_outputChar_24 (by decide) ?_
    refine o_ret1 dX12_outputChar_29 (by first | exact o_rcN 32 (by decide) (by decide) | exact o_rcN _ (by omega) (by omega)) ?_
    exact r_xq hmd (by rw [if_pos ⟨by omega, by omega⟩, Int.toNat_natCast]; exact hgj.symm) (by rw [q_12, o_b1 c_15, o_b1 ⟨by omega, by omega⟩])
