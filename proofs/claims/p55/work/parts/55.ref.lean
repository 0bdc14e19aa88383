/-! words of the numbers, lemmas of them (out of whole) -/
theorem p_cl_at (t : Nat → Int) (n : Nat) : ∀ (w : List Int) (p k : Nat), k < w.length → k ≤ p_cl t n w p → (p_tx t n (p + k) = w.getD k 0 ↔ k < p_cl t n w p)
  | [], _, k => fun h => absurd h (Nat.not_lt_zero k)
  | c :: w, p, 0 => fun _ _ => by
    by_cases h : p_tx t n p = c
    · rw [p_cl_1 h]; exact ⟨fun _ => Nat.succ_pos _, fun _ => h⟩
    · rw [p_cl_0 h]; exact ⟨fun q => absurd q h, fun q => absurd q (Nat.not_lt_zero _)⟩
  | c :: w, p, k + 1 => fun h1 h2 => by
    by_cases h : p_tx t n p = c
    · rw [p_cl_1 h] at h2 ⊢
      have := p_cl_at t n w (p + 1) k (by rw [List.length_cons] at h1; omega) (by omega)
      rw [show p + (k + 1) = p + 1 + k by omega]
      exact this.trans ⟨fun q => by omega, fun q => by omega⟩
    · rw [p_cl_0 h] at h2; omega
theorem p_tx_R {t : Nat → Int} {n : Nat} (ht : ∀ j, j < n → 0 ≤ t j ∧ t j < 65536) (p : Nat) : -1 ≤ p_tx t n p ∧ p_tx t n p < 65536 := by
  unfold p_tx
  split
  · rename_i q; have := ht p q; omega
  · decide
def c_ok (c : Nat × List Int) : Prop := c.1 < 7 ∧ c.2.length = (p_wd c.1).length ∧ ∀ i, i < c.2.length → 0 ≤ c.2.getD i 0 ∧ c.2.getD i 0 ≤ 999
theorem p_nums_ok (t : Nat → Int) (n : Nat) : ∀ (ms : List Nat) (p : Nat), (∀ m ∈ ms, m ≤ 3) → (p_nums t n ms p).1 = true → (p_nums t n ms p).2.2.length = ms.length ∧ ∀ i, i < (p_nums t n ms p).2.2.length → 0 ≤ (p_nums t n ms p).2.2.getD i 0 ∧ (p_nums t n ms p).2.2.getD i 0 ≤ 999
  | [], p => fun _ _ => ⟨rfl, fun i hi => absurd hi (Nat.not_lt_zero i)⟩
  | m :: ms, p => fun hm hok => by
    unfold p_nums at hok ⊢
    by_cases h : (p_num t n m p).1 = true
    · rw [if_pos h] at hok ⊢
      have ih := p_nums_ok t n ms (p_num t n m p).2.1 (fun m hm' => hm m (List.mem_cons_of_mem _ hm')) hok
      refine ⟨by show (_ :: _ : List Int).length = _; rw [List.length_cons, List.length_cons, ih.1], fun i hi => ?_⟩
      cases i with
      | zero => exact p_num_v t n p m (hm m List.mem_cons_self)
      | succ i => exact ih.2 i (by have hi : i + 1 < (_ :: _ : List Int).length := hi; rw [List.length_cons] at hi; omega)
    · rw [if_neg h] at hok
      cases hok
theorem p_cmd_ok {t : Nat → Int} {n p : Nat} (hok : (p_cmd t n p).1 = true) : c_ok (p_cmd t n p).2.2 := by
  have hl := p_sel_lt t n p
  unfold p_cmd at hok ⊢
  by_cases h : p_cl t n (p_W (p_sel t n p)) p = (p_W (p_sel t n p)).length
  · rw [if_pos h] at hok ⊢
    by_cases h6 : p_sel t n p = 6 ∧ p_tx t n (p_we t n p) ≠ 32
    · rw [if_pos h6]
      refine ⟨(by decide : (6 : Nat) < 7), rfl, fun i hi => ?_⟩
      have hi : i < 1 := hi
      rcases (by omega : i = 0) with rfl
      exact ⟨(by decide : (0 : Int) ≤ 1), (by decide : (1 : Int) ≤ 999)⟩
    · rw [if_neg h6] at hok ⊢
      have := p_nums_ok t n (p_wd (p_sel t n p)) (p_we t n p) (by
        rcases (by omega : p_sel t n p = 0 ∨ p_sel t n p = 1 ∨ p_sel t n p = 2 ∨ p_sel t n p = 3 ∨ p_sel t n p = 4 ∨ p_sel t n p = 5 ∨ p_sel t n p = 6) with q | q | q | q | q | q | q <;> rw [q] <;> decide) hok
      exact ⟨hl, this.1, this.2⟩
  · rw [if_neg h] at hok; cases hok
theorem p_all_ok {t : Nat → Int} {n : Nat} : ∀ (f p : Nat), p ≤ n → (p_all t n f p).1 = true → (∀ c ∈ (p_all t n f p).2.2, c_ok c) ∧ 5 * (p_all t n f p).2.2.length ≤ n - p + 1
  | 0, p => fun _ h => by cases h
  | f + 1, p => fun hp hok => by
    have hi := p_cmd_in (t := t) hp
    unfold p_all at hok ⊢
    by_cases c1 : (p_cmd t n p).1 = true
    · rw [if_pos c1] at hok ⊢
      have h4 := hi.2.2 c1
      have hc := p_cmd_ok c1
      by_cases c2 : n ≤ (p_cmd t n p).2.1
      · rw [if_pos c2]
        exact ⟨fun c hc' => by rw [List.mem_singleton.mp hc']; exact hc, by show 5 * 1 ≤ _; omega⟩
      · rw [if_neg c2] at hok ⊢
        by_cases c3 : p_tx t n (p_cmd t n p).2.1 = 59
        · rw [if_pos c3] at hok ⊢
          have ih := p_all_ok f ((p_cmd t n p).2.1 + 1) (by omega) hok
          refine ⟨fun c hc' => ?_, ?_⟩
          · rcases List.mem_cons.mp hc' with q | q
            · rw [q]; exact hc
            · exact ih.1 c q
          · show 5 * (_ :: _ : List _).length ≤ _
            rw [List.length_cons]
            have := ih.2
            omega
        · rw [if_neg c3] at hok; cases hok
    · rw [if_neg c1] at hok; cases hok
def x_r (T : Nat → Nat → Int) : Bool × Nat × List (Nat × List Int) := p_all (T 1) (T 0 0).toNat 12 0
def x_k (T M : Nat → Nat → Int) : Int := if (x_r T).1 = true then (match c_bad 0 (x_r T).2.2 M with | none => 0 | some _ => 2) else 1
def x_v (T M : Nat → Nat → Int) : Int := if x_k T M = 0 then ((x_r T).2.2.length : Int) else 0
def x_M (T M : Nat → Nat → Int) : Nat → Nat → Int := if x_k T M = 0 then c_fin (x_r T).2.2 M else M
def x_P (T M : Nat → Nat → Int) (P : List (Nat → Nat → Int)) : List (Nat → Nat → Int) := if x_k T M = 0 then h_push P M else P
def x_T (T M : Nat → Nat → Int) : Nat → Nat → Int := if (x_r T).1 = true then (match c_bad 0 (x_r T).2.2 M with | none => o_e T 0 0 0 | some b => o_e (o_e (o_e T 0 0 0) 0 3 (b.1 : Int)) 0 4 (c_let b.2.1 b.2.2)) else o_e (o_e T 0 2 ((x_r T).2.1 : Int)) 0 0 0
/-- what the texts keep to -/
def o_tk (T : Nat → Nat → Int) : Prop := 0 ≤ T 0 0 ∧ T 0 0 ≤ 60 ∧ (∀ j : Nat, (j : Int) < T 0 0 → 0 ≤ T 1 j ∧ T 1 j < 65536) ∧ (-1 ≤ T 0 2 ∧ T 0 2 ≤ 60) ∧ (-1 ≤ T 0 3 ∧ T 0 3 ≤ 12) ∧ (0 ≤ T 0 4 ∧ T 0 4 < 65536)
theorem c_bad_i : ∀ (cs : List (Nat × List Int)) (M : Nat → Nat → Int) (i : Nat) (b : Nat × Nat × Int), c_bad i cs M = some b → i ≤ b.1 ∧ b.1 < i + cs.length
  | [], _, _, _ => fun h => by cases h
  | c :: cs, M, i, b => fun h => by
    unfold c_bad at h
    rw [List.length_cons]
    by_cases q : c_r M c = 0
    · rw [if_pos q] at h
      have := c_bad_i cs _ _ _ h
      omega
    · rw [if_neg q] at h
      cases h
      exact ⟨Nat.le_refl i, by show i < _; omega⟩
theorem o_fc (z : Int) (h0 : 0 ≤ z) (h1 : z < 128) : fits .char (.int (o_I z)) = true := o_fin (fun z => fits .char (.int (o_I z)) = true) (by decide +kernel) z h0 h1
def t_nf : Nat → Nat → List Int
  | 0, _ => []
  | f + 1, v => (if 9 < v then t_nf f (v / 10) else []) ++ [48 + ((v % 10 : Nat) : Int)]
def t_num (z : Int) : List Int := t_nf 8 z.toNat
def t_lamp (M : Nat → Nat → Int) (i : Nat) : List Int := (if 0 < i then [32] else []) ++ (t_num (M 4 i) ++ ((if 0 < M 5 i then [115] ++ (t_num (M 5 i - 1) ++ ([101] ++ t_num (M 6 i))) else []) ++ (if 0 ≤ m_pos M i then [114] else [])))
def t_all (M : Nat → Nat → Int) : Nat → List Int
  | 0 => []
  | n + 1 => t_all M n ++ t_lamp M n
theorem t_nf_len : ∀ (f v k : Nat), v < 10 ^ k → 1 ≤ k → (t_nf f v).length ≤ k
  | 0, _, k => fun _ _ => Nat.zero_le k
  | f + 1, v, k => fun hv hk => by
    unfold t_nf
    rw [List.length_append]
    by_cases h : 9 < v
    · rw [if_pos h]
      obtain ⟨k1, rfl⟩ : ∃ k1, k = k1 + 1 := ⟨k - 1, by omega⟩
      have h1 : v / 10 < 10 ^ k1 := by rw [Nat.pow_succ] at hv; omega
      have h2 : 1 ≤ k1 := by
        rcases Nat.eq_zero_or_pos k1 with q | q
        · subst q; simp at hv; omega
        · exact q
      have := t_nf_len f (v / 10) k1 h1 h2
      show _ + 1 ≤ k1 + 1
      omega
    · rw [if_neg h]
      show 0 + 1 ≤ k
      omega
theorem t_nf_pos (f v : Nat) : 1 ≤ (t_nf (f + 1) v).length := by
  unfold t_nf
  rw [List.length_append]
  show 1 ≤ _ + 1
  omega
theorem t_nf_ch : ∀ (f v : Nat), ∀ c ∈ t_nf f v, 0 ≤ c ∧ c < 128
  | 0, _ => fun c hc => by cases hc
  | f + 1, v => fun c hc => by
    unfold t_nf at hc
    rcases List.mem_append.mp hc with q | q
    · by_cases h : 9 < v
      · rw [if_pos h] at q; exact t_nf_ch f _ c q
      · rw [if_neg h] at q; cases q
    · rw [List.mem_singleton.mp q]; omega
theorem t_nf_eq : ∀ (f f' v : Nat), v < 10 ^ f → v < 10 ^ f' → 1 ≤ f → 1 ≤ f' → t_nf f v = t_nf f' v
  | 0, _, _ => fun _ _ h _ => absurd h (by decide)
  | _, 0, _ => fun _ _ _ h => absurd h (by decide)
  | f + 1, f' + 1, v => fun h1 h2 _ _ => by
    unfold t_nf
    by_cases h : 9 < v
    · rw [if_pos h, if_pos h]
      have p1 : 1 ≤ f := by
        rcases Nat.eq_zero_or_pos f with q | q
        · subst q; simp at h1; omega
        · exact q
      have p2 : 1 ≤ f' := by
        rcases Nat.eq_zero_or_pos f' with q | q
        · subst q; simp at h2; omega
        · exact q
      rw [t_nf_eq f f' (v / 10) (by rw [Nat.pow_succ] at h1; omega) (by rw [Nat.pow_succ] at h2; omega) p1 p2]
    · rw [if_neg h, if_neg h]
theorem t_p7 : (10 : Nat) ^ 7 = 10000000 := by decide
theorem t_num_l1 {z : Int} (h : z < 10) : (t_num z).length ≤ 1 := t_nf_len 8 z.toNat 1 (by omega) (Nat.le_refl 1)
theorem t_num_l7 {z : Int} (h : z < 10000000) : (t_num z).length ≤ 7 := t_nf_len 8 z.toNat 7 (by rw [t_p7]; omega) (by decide)
theorem t_lamp_l {M : Nat → Nat → Int} (h : o_wf M) {i : Nat} (hi : (i : Int) < M 0 1) : (t_lamp M i).length ≤ 13 := by
  have hl := h.1.2.1.2.2.2.2 i hi
  have h3 := h.2.1
  have h4 := h.1.2.1.2.2.1
  have a1 := t_num_l1 (z := M 4 i) (by omega)
  have a2 := t_num_l1 (z := M 5 i - 1) (by omega)
  have a3 := t_num_l7 (z := M 6 i) (by omega)
  unfold t_lamp
  rw [List.length_append, List.length_append, List.length_append]
  have b1 : (if 0 < i then [(32 : Int)] else []).length ≤ 1 := by split <;> simp
  have b2 : (if 0 < M 5 i then [(115 : Int)] ++ (t_num (M 5 i - 1) ++ ([101] ++ t_num (M 6 i))) else []).length ≤ 10 := by
    split
    · rw [List.length_append, List.length_append, List.length_append]
      show 1 + (_ + (1 + _)) ≤ 10
      omega
    · exact Nat.zero_le _
  have b3 : (if 0 ≤ m_pos M i then [(114 : Int)] else []).length ≤ 1 := by split <;> simp
  omega
theorem t_all_l {M : Nat → Nat → Int} (h : o_wf M) : ∀ n : Nat, (n : Int) ≤ M 0 1 → (t_all M n).length ≤ 13 * n
  | 0 => fun _ => Nat.le_refl 0
  | n + 1 => fun hn => by
    have h1 := t_all_l h n (by omega)
    have h2 := t_lamp_l h (i := n) (by omega)
    show (t_all M n ++ t_lamp M n).length ≤ _
    rw [List.length_append]
    omega
def t_out (T : Nat → Nat → Int) (L : List Int) : Nat → Nat → Int := fun a j => if a = 0 ∧ j = 1 then (L.length : Int) else if a = 2 then L.getD j 0 else T a j
theorem o_getD_app {L : List Int} {c : Int} {j : Nat} (hj : j < (L ++ [c]).length) : (L ++ [c]).getD j 0 = if j = L.length then c else L.getD j 0 := by
  rw [List.length_append] at hj
  have hj : j < L.length + 1 := hj
  rw [List.getD_eq_getElem?_getD, List.getD_eq_getElem?_getD]
  by_cases q : j = L.length
  · rw [if_pos q, q, List.getElem?_append_right (Nat.le_refl _), Nat.sub_self]; rfl
  · rw [if_neg q, List.getElem?_append_left (by omega)]
def f_mean (M : Nat → Nat → Int) : UInt64 := FP.ddiv (FP.i2d (o_I (o_sm (fun i => M 1 i) (M 0 0).toNat))) (FP.i2d (o_I (M 0 0)))
def f_lsd (M : Nat → Nat → Int) : Int := o_sm (fun i => o_b (0 < M 5 i)) (M 0 1).toNat
def f_shr (M : Nat → Nat → Int) : UInt32 := FP.fdiv (FP.i2f (o_I (f_lsd M))) (FP.i2f (o_I (M 0 1)))
theorem fp_all : ∀ a : Fin 601, ∀ b : Fin 6, (FP.ddiv (FP.i2d (o_I ((a : Nat) : Int))) (FP.i2d (o_I (((b : Nat) + 1 : Nat) : Int))) &&& 0x7fffffffffffffff ≤ 0x7ff0000000000000) ∧ FP.dcmp (FP.ddiv (FP.i2d (o_I ((a : Nat) : Int))) (FP.i2d (o_I (((b : Nat) + 1 : Nat) : Int)))) (FP.ddiv (FP.i2d (o_I ((a : Nat) : Int))) (FP.i2d (o_I (((b : Nat) + 1 : Nat) : Int)))) = some .eq := by decide +kernel
theorem fp_all2 : ∀ a : Fin 9, ∀ b : Fin 8, (FP.fdiv (FP.i2f (o_I ((a : Nat) : Int))) (FP.i2f (o_I (((b : Nat) + 1 : Nat) : Int))) &&& 0x7fffffff ≤ 0x7f800000) ∧ (FP.f2d (FP.fdiv (FP.i2f (o_I ((a : Nat) : Int))) (FP.i2f (o_I (((b : Nat) + 1 : Nat) : Int)))) &&& 0x7fffffffffffffff ≤ 0x7ff0000000000000) ∧ FP.dcmp (FP.f2d (FP.fdiv (FP.i2f (o_I ((a : Nat) : Int))) (FP.i2f (o_I (((b : Nat) + 1 : Nat) : Int))))) (FP.f2d (FP.fdiv (FP.i2f (o_I ((a : Nat) : Int))) (FP.i2f (o_I (((b : Nat) + 1 : Nat) : Int))))) = some .eq := by decide +kernel
theorem f_mean_ok {M : Nat → Nat → Int} (h : o_wk M) (h0 : 0 < M 0 0) : vf_n64 (f_mean M) ∧ FP.dcmp (f_mean M) (f_mean M) = some .eq ∧ 0 ≤ o_sm (fun i => M 1 i) (M 0 0).toNat ∧ o_sm (fun i => M 1 i) (M 0 0).toNat ≤ 600 := by
  have hs := h.1
  have hle := o_sm_le (f := fun i => M 1 i) (n := (M 0 0).toNat) (m := 100) (fun i hi => (hs.2.2 i (by omega)).1)
  have h6 := hs.2.1
  have hb : 0 ≤ o_sm (fun i => M 1 i) (M 0 0).toNat ∧ o_sm (fun i => M 1 i) (M 0 0).toNat ≤ 600 := by
    rcases (by omega : (M 0 0).toNat = 1 ∨ (M 0 0).toNat = 2 ∨ (M 0 0).toNat = 3 ∨ (M 0 0).toNat = 4 ∨ (M 0 0).toNat = 5 ∨ (M 0 0).toNat = 6) with q | q | q | q | q | q <;> rw [q] at hle ⊢ <;> omega
  obtain ⟨a, ha⟩ : ∃ a : Nat, (a : Int) = o_sm (fun i => M 1 i) (M 0 0).toNat := ⟨(o_sm (fun i => M 1 i) (M 0 0).toNat).toNat, by omega⟩
  obtain ⟨b, hb9⟩ : ∃ b : Nat, ((b + 1 : Nat) : Int) = M 0 0 := ⟨(M 0 0).toNat - 1, by omega⟩
  have q := fp_all ⟨a, by omega⟩ ⟨b, by omega⟩
  have e : f_mean M = FP.ddiv (FP.i2d (o_I (a : Int))) (FP.i2d (o_I ((b + 1 : Nat) : Int))) := by unfold f_mean; rw [ha, hb9]
  rw [e]
  exact ⟨q.1, q.2, hb⟩
theorem f_shr_ok {M : Nat → Nat → Int} (h : o_wk M) (h0 : 0 < M 0 1) : vf_n32 (f_shr M) ∧ vf_n64 (FP.f2d (f_shr M)) ∧ FP.dcmp (FP.f2d (f_shr M)) (FP.f2d (f_shr M)) = some .eq := by
  have hl := h.2.1
  have hle := o_sm_le (f := fun i => o_b (0 < M 5 i)) (n := (M 0 1).toNat) (m := 1) (fun i hi => by rcases o_b01 (0 < M 5 i) with q | q <;> (show 0 ≤ o_b _ ∧ o_b _ ≤ 1) <;> rw [q] <;> omega)
  have h8 := hl.2.1
  obtain ⟨a, ha⟩ : ∃ a : Nat, (a : Int) = f_lsd M := ⟨(f_lsd M).toNat, by unfold f_lsd; omega⟩
  have ha8 : a < 9 := by unfold f_lsd at ha; omega
  obtain ⟨b, hb9⟩ : ∃ b : Nat, ((b + 1 : Nat) : Int) = M 0 1 := ⟨(M 0 1).toNat - 1, by omega⟩
  have q := fp_all2 ⟨a, ha8⟩ ⟨b, by omega⟩
  have e : f_shr M = FP.fdiv (FP.i2f (o_I (a : Int))) (FP.i2f (o_I ((b + 1 : Nat) : Int))) := by unfold f_shr; rw [ha, hb9]
  rw [e]
  exact ⟨q.1, q.2.1, q.2.2⟩
