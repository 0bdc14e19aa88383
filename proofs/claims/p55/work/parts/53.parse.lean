/-! the commands' texts: how they are read, over numbers -/
def p_tx (t : Nat → Int) (n p : Nat) : Int := if p < n then t p else -1
def p_cl (t : Nat → Int) (n : Nat) : List Int → Nat → Nat
  | [], _ => 0
  | c :: w, p => if p_tx t n p = c then p_cl t n w (p + 1) + 1 else 0
def p_W : Nat → List Int
  | 0 => [115, 104, 105, 112]
  | 1 => [108, 97, 109, 112]
  | 2 => [111, 105, 108]
  | 3 => [108, 101, 97, 115, 101]
  | 4 => [114, 101, 110, 101, 119]
  | 5 => [100, 114, 111, 112]
  | _ => [119, 97, 105, 116]
def p_wd : Nat → List Nat
  | 0 => []
  | 1 => [1]
  | 2 => [3]
  | 3 => [1, 1, 2]
  | 4 => [1, 2]
  | 5 => [1]
  | _ => [2]
def p_sel (t : Nat → Int) (n p : Nat) : Nat := if p_tx t n p = 108 then (if p_tx t n (p + 1) = 97 then 1 else 3) else if p_tx t n p = 111 then 2 else if p_tx t n p = 114 then 4 else if p_tx t n p = 100 then 5 else if p_tx t n p = 119 then 6 else 0
abbrev p_dg (c : Int) : Prop := 48 ≤ c ∧ c ≤ 57
def p_ds (t : Nat → Int) (n : Nat) : Nat → Nat → Int → Nat × Int
  | 0, p, a => (p, a)
  | m + 1, p, a => if p_dg (p_tx t n p) then p_ds t n m (p + 1) (a * 10 + (p_tx t n p - 48)) else (p, a)
def p_num (t : Nat → Int) (n m p : Nat) : Bool × Nat × Int := if p_tx t n p = 32 then (if p_dg (p_tx t n (p + 1)) then (true, p_ds t n m (p + 1) 0) else (false, p + 1, 0)) else (false, p, 0)
def p_nums (t : Nat → Int) (n : Nat) : List Nat → Nat → Bool × Nat × List Int
  | [], p => (true, p, [])
  | m :: ms, p => if (p_num t n m p).1 = true then ((p_nums t n ms (p_num t n m p).2.1).1, (p_nums t n ms (p_num t n m p).2.1).2.1, (p_num t n m p).2.2 :: (p_nums t n ms (p_num t n m p).2.1).2.2) else (false, (p_num t n m p).2.1, [])
/-- the word's end, or where it fails -/
def p_we (t : Nat → Int) (n p : Nat) : Nat := p + p_cl t n (p_W (p_sel t n p)) p
/-- a command: whether it is well-formed, where it ends or fails, its word, its numbers -/
def p_cmd (t : Nat → Int) (n p : Nat) : Bool × Nat × Nat × List Int :=
  if p_cl t n (p_W (p_sel t n p)) p = (p_W (p_sel t n p)).length then
    (if p_sel t n p = 6 ∧ p_tx t n (p_we t n p) ≠ 32 then (true, p_we t n p, 6, [1])
     else ((p_nums t n (p_wd (p_sel t n p)) (p_we t n p)).1, (p_nums t n (p_wd (p_sel t n p)) (p_we t n p)).2.1, p_sel t n p, (p_nums t n (p_wd (p_sel t n p)) (p_we t n p)).2.2))
  else (false, p_we t n p, 0, [])
def p_all (t : Nat → Int) (n : Nat) : Nat → Nat → Bool × Nat × List (Nat × List Int)
  | 0, p => (false, p, [])
  | f + 1, p => if (p_cmd t n p).1 = true then
      (if n ≤ (p_cmd t n p).2.1 then (true, (p_cmd t n p).2.1, [(p_cmd t n p).2.2])
       else if p_tx t n (p_cmd t n p).2.1 = 59 then ((p_all t n f ((p_cmd t n p).2.1 + 1)).1, (p_all t n f ((p_cmd t n p).2.1 + 1)).2.1, (p_cmd t n p).2.2 :: (p_all t n f ((p_cmd t n p).2.1 + 1)).2.2)
       else (false, (p_cmd t n p).2.1, [(p_cmd t n p).2.2]))
    else (false, (p_cmd t n p).2.1, [])
theorem p_tx_in {t : Nat → Int} {n p : Nat} (h : p_tx t n p ≠ -1) : p < n := by
  unfold p_tx at h
  split at h
  · assumption
  · exact absurd rfl h
theorem p_tx_lt {t : Nat → Int} {n p : Nat} (h : p < n) : p_tx t n p = t p := if_pos h
theorem p_tx_ge {t : Nat → Int} {n p : Nat} (h : n ≤ p) : p_tx t n p = -1 := if_neg (by omega)
theorem p_cl_0 {t : Nat → Int} {n p : Nat} {c : Int} {w : List Int} (h : p_tx t n p ≠ c) : p_cl t n (c :: w) p = 0 := if_neg h
theorem p_cl_1 {t : Nat → Int} {n p : Nat} {c : Int} {w : List Int} (h : p_tx t n p = c) : p_cl t n (c :: w) p = p_cl t n w (p + 1) + 1 := if_pos h
theorem p_cl_le (t : Nat → Int) (n : Nat) : ∀ (w : List Int) (p : Nat), p_cl t n w p ≤ w.length
  | [], _ => Nat.le_refl 0
  | c :: w, p => by
    by_cases h : p_tx t n p = c
    · rw [p_cl_1 h, List.length_cons]
      exact Nat.succ_le_succ (p_cl_le t n w (p + 1))
    · rw [p_cl_0 h]; exact Nat.zero_le _
theorem p_cl_in (t : Nat → Int) (n : Nat) : ∀ (w : List Int) (p : Nat), (∀ c ∈ w, 0 ≤ c) → p ≤ n → p + p_cl t n w p ≤ n
  | [], _ => fun _ hp => hp
  | c :: w, p => fun hw hp => by
    by_cases h : p_tx t n p = c
    · have h1 := hw c List.mem_cons_self
      have h2 := p_tx_in (t := t) (n := n) (p := p) (by omega)
      have := p_cl_in t n w (p + 1) (fun c hc => hw c (List.mem_cons_of_mem _ hc)) (by omega)
      rw [p_cl_1 h]; omega
    · rw [p_cl_0 h]; exact hp
theorem p_W_nn (k : Nat) : ∀ c ∈ p_W k, 0 ≤ c := by
  unfold p_W
  split <;> decide
theorem p_we_in {t : Nat → Int} {n p : Nat} (hp : p ≤ n) : p ≤ p_we t n p ∧ p_we t n p ≤ n := ⟨Nat.le_add_right _ _, p_cl_in t n _ p (p_W_nn _) hp⟩
theorem p_sel_lt (t : Nat → Int) (n p : Nat) : p_sel t n p < 7 := by
  unfold p_sel
  split
  · split <;> decide
  · split
    · decide
    · split
      · decide
      · split
        · decide
        · split <;> decide
theorem p_kw {t : Nat → Int} {n p : Nat} (i : Nat) (hi : i < 7) (hn : i ≠ p_sel t n p) : p_cl t n (p_W i) p ≤ p_cl t n (p_W (p_sel t n p)) p ∧ p_cl t n (p_W i) p < (p_W i).length := by
  have z : ∀ (c : Int) (w : List Int), p_W i = c :: w → p_tx t n p ≠ c → p_cl t n (p_W i) p ≤ p_cl t n (p_W (p_sel t n p)) p ∧ p_cl t n (p_W i) p < (p_W i).length := fun c w e h => by
    rw [e, p_cl_0 h]
    exact ⟨Nat.zero_le _, Nat.succ_pos _⟩
  have hc : i = 0 ∨ i = 1 ∨ i = 2 ∨ i = 3 ∨ i = 4 ∨ i = 5 ∨ i = 6 := by omega
  by_cases a1 : p_tx t n p = 108
  · by_cases a2 : p_tx t n (p + 1) = 97
    · have hs : p_sel t n p = 1 := by unfold p_sel; rw [if_pos a1, if_pos a2]
      rcases hc with rfl | rfl | rfl | rfl | rfl | rfl | rfl
      · exact z 115 _ rfl (by omega)
      · exact absurd hs.symm hn
      · exact z 111 _ rfl (by omega)
      · rw [hs, show p_W 3 = [108, 101, 97, 115, 101] from rfl, show p_W 1 = [108, 97, 109, 112] from rfl, p_cl_1 a1, p_cl_1 a1, p_cl_0 (c := 101) (by omega)]
        exact ⟨by omega, by decide⟩
      · exact z 114 _ rfl (by omega)
      · exact z 100 _ rfl (by omega)
      · exact z 119 _ rfl (by omega)
    · have hs : p_sel t n p = 3 := by unfold p_sel; rw [if_pos a1, if_neg a2]
      rcases hc with rfl | rfl | rfl | rfl | rfl | rfl | rfl
      · exact z 115 _ rfl (by omega)
      · rw [hs, show p_W 3 = [108, 101, 97, 115, 101] from rfl, show p_W 1 = [108, 97, 109, 112] from rfl, p_cl_1 a1, p_cl_1 a1, p_cl_0 (c := 97) a2]
        exact ⟨by omega, by decide⟩
      · exact z 111 _ rfl (by omega)
      · exact absurd hs.symm hn
      · exact z 114 _ rfl (by omega)
      · exact z 100 _ rfl (by omega)
      · exact z 119 _ rfl (by omega)
  · by_cases b2 : p_tx t n p = 111
    · have hs : p_sel t n p = 2 := by unfold p_sel; rw [if_neg a1, if_pos b2]
      rcases hc with rfl | rfl | rfl | rfl | rfl | rfl | rfl
      · exact z 115 _ rfl (by omega)
      · exact z 108 _ rfl (by omega)
      · exact absurd hs.symm hn
      · exact z 108 _ rfl (by omega)
      · exact z 114 _ rfl (by omega)
      · exact z 100 _ rfl (by omega)
      · exact z 119 _ rfl (by omega)
    · by_cases b3 : p_tx t n p = 114
      · have hs : p_sel t n p = 4 := by unfold p_sel; rw [if_neg a1, if_neg b2, if_pos b3]
        rcases hc with rfl | rfl | rfl | rfl | rfl | rfl | rfl
        · exact z 115 _ rfl (by omega)
        · exact z 108 _ rfl (by omega)
        · exact z 111 _ rfl (by omega)
        · exact z 108 _ rfl (by omega)
        · exact absurd hs.symm hn
        · exact z 100 _ rfl (by omega)
        · exact z 119 _ rfl (by omega)
      · by_cases b4 : p_tx t n p = 100
        · have hs : p_sel t n p = 5 := by unfold p_sel; rw [if_neg a1, if_neg b2, if_neg b3, if_pos b4]
          rcases hc with rfl | rfl | rfl | rfl | rfl | rfl | rfl
          · exact z 115 _ rfl (by omega)
          · exact z 108 _ rfl (by omega)
          · exact z 111 _ rfl (by omega)
          · exact z 108 _ rfl (by omega)
          · exact z 114 _ rfl (by omega)
          · exact absurd hs.symm hn
          · exact z 119 _ rfl (by omega)
        · by_cases b5 : p_tx t n p = 119
          · have hs : p_sel t n p = 6 := by unfold p_sel; rw [if_neg a1, if_neg b2, if_neg b3, if_neg b4, if_pos b5]
            rcases hc with rfl | rfl | rfl | rfl | rfl | rfl | rfl
            · exact z 115 _ rfl (by omega)
            · exact z 108 _ rfl (by omega)
            · exact z 111 _ rfl (by omega)
            · exact z 108 _ rfl (by omega)
            · exact z 114 _ rfl (by omega)
            · exact z 100 _ rfl (by omega)
            · exact absurd hs.symm hn
          · have hs : p_sel t n p = 0 := by unfold p_sel; rw [if_neg a1, if_neg b2, if_neg b3, if_neg b4, if_neg b5]
            rcases hc with rfl | rfl | rfl | rfl | rfl | rfl | rfl
            · exact absurd hs.symm hn
            · exact z 108 _ rfl (by omega)
            · exact z 111 _ rfl (by omega)
            · exact z 108 _ rfl (by omega)
            · exact z 114 _ rfl (by omega)
            · exact z 100 _ rfl (by omega)
            · exact z 119 _ rfl (by omega)
theorem p_ds_in (t : Nat → Int) (n : Nat) : ∀ (m p : Nat) (a : Int), p ≤ n → p ≤ (p_ds t n m p a).1 ∧ (p_ds t n m p a).1 ≤ n
  | 0, p, a => fun hp => ⟨Nat.le_refl _, hp⟩
  | m + 1, p, a => fun hp => by
    unfold p_ds
    by_cases h : p_dg (p_tx t n p)
    · rw [if_pos h]
      have h2 := p_tx_in (t := t) (n := n) (p := p) (by omega)
      have := p_ds_in t n m (p + 1) (a * 10 + (p_tx t n p - 48)) (by omega)
      exact ⟨by omega, this.2⟩
    · rw [if_neg h]; exact ⟨Nat.le_refl _, hp⟩
theorem p_ds_v (t : Nat → Int) (n : Nat) : ∀ (m p : Nat) (a b : Int), 0 ≤ a → a ≤ b → 0 ≤ (p_ds t n m p a).2 ∧ (p_ds t n m p a).2 + 1 ≤ (b + 1) * 10 ^ m
  | 0, p, a, b => fun h0 h1 => ⟨h0, by show a + 1 ≤ (b + 1) * 1; omega⟩
  | m + 1, p, a, b => fun h0 h1 => by
    have hp : (1 : Int) ≤ 10 ^ m := by induction m with
      | zero => decide
      | succ m ih => rw [Int.pow_succ]; omega
    unfold p_ds
    have e : (b + 1) * 10 ^ (m + 1) = ((b * 10 + 9) + 1) * 10 ^ m := by
      rw [Int.pow_succ, show (b * 10 + 9) + 1 = (b + 1) * 10 by omega, Int.mul_assoc, Int.mul_comm (10 ^ m) 10]
    by_cases h : p_dg (p_tx t n p)
    · rw [if_pos h, e]
      exact p_ds_v t n m (p + 1) _ _ (by omega) (by omega)
    · rw [if_neg h, e]
      refine ⟨h0, ?_⟩
      have : (b * 10 + 9 + 1) * 1 ≤ (b * 10 + 9 + 1) * 10 ^ m := Int.mul_le_mul_of_nonneg_left hp (by omega)
      show a + 1 ≤ _
      omega
theorem p_num_in {t : Nat → Int} {n p : Nat} (m : Nat) (hp : p ≤ n) : p ≤ (p_num t n m p).2.1 ∧ (p_num t n m p).2.1 ≤ n ∧ ((p_num t n m p).1 = true → p + 1 ≤ (p_num t n m p).2.1) := by
  unfold p_num
  by_cases h : p_tx t n p = 32
  · rw [if_pos h]
    have h2 := p_tx_in (t := t) (n := n) (p := p) (by omega)
    by_cases h3 : p_dg (p_tx t n (p + 1))
    · rw [if_pos h3]
      have := p_ds_in t n m (p + 1) 0 (by omega)
      exact ⟨by show p ≤ (p_ds t n m (p + 1) 0).1; omega, this.2, fun _ => this.1⟩
    · rw [if_neg h3]; exact ⟨Nat.le_succ p, h2, fun q => by cases q⟩
  · rw [if_neg h]; exact ⟨Nat.le_refl _, hp, fun q => by cases q⟩
theorem p_num_v (t : Nat → Int) (n p m : Nat) (hm : m ≤ 3) : 0 ≤ (p_num t n m p).2.2 ∧ (p_num t n m p).2.2 ≤ 999 := by
  unfold p_num
  by_cases h : p_tx t n p = 32
  · rw [if_pos h]
    by_cases h3 : p_dg (p_tx t n (p + 1))
    · rw [if_pos h3]
      have := p_ds_v t n m (p + 1) 0 0 (by decide) (by decide)
      refine ⟨this.1, ?_⟩
      show (p_ds t n m (p + 1) 0).2 ≤ 999
      rcases (by omega : m = 0 ∨ m = 1 ∨ m = 2 ∨ m = 3) with rfl | rfl | rfl | rfl <;> omega
    · rw [if_neg h3]; exact ⟨Int.le_refl 0, (by decide : (0 : Int) ≤ 999)⟩
  · rw [if_neg h]; exact ⟨Int.le_refl 0, (by decide : (0 : Int) ≤ 999)⟩
theorem p_nums_in (t : Nat → Int) (n : Nat) : ∀ (ms : List Nat) (p : Nat), p ≤ n → p ≤ (p_nums t n ms p).2.1 ∧ (p_nums t n ms p).2.1 ≤ n
  | [], p => fun hp => ⟨Nat.le_refl _, hp⟩
  | m :: ms, p => fun hp => by
    have h1 := p_num_in (t := t) m hp
    unfold p_nums
    by_cases h : (p_num t n m p).1 = true
    · rw [if_pos h]
      have := p_nums_in t n ms (p_num t n m p).2.1 h1.2.1
      exact ⟨by show p ≤ (p_nums t n ms (p_num t n m p).2.1).2.1; omega, this.2⟩
    · rw [if_neg h]; exact ⟨h1.1, h1.2.1⟩
theorem p_cmd_in {t : Nat → Int} {n p : Nat} (hp : p ≤ n) : p ≤ (p_cmd t n p).2.1 ∧ (p_cmd t n p).2.1 ≤ n ∧ ((p_cmd t n p).1 = true → p + 4 ≤ (p_cmd t n p).2.1) := by
  have h1 := p_we_in (t := t) hp
  unfold p_cmd
  by_cases h : p_cl t n (p_W (p_sel t n p)) p = (p_W (p_sel t n p)).length
  · rw [if_pos h]
    have hw : p_we t n p = p + (p_W (p_sel t n p)).length := by unfold p_we; rw [h]
    by_cases h6 : p_sel t n p = 6 ∧ p_tx t n (p_we t n p) ≠ 32
    · rw [if_pos h6]
      refine ⟨h1.1, h1.2, fun _ => ?_⟩
      rw [h6.1] at hw
      show p + 4 ≤ p_we t n p
      rw [hw]; exact Nat.le_refl _
    · rw [if_neg h6]
      have h2 := p_nums_in t n (p_wd (p_sel t n p)) (p_we t n p) h1.2
      refine ⟨by show p ≤ (p_nums t n (p_wd (p_sel t n p)) (p_we t n p)).2.1; omega, h2.2, fun hok => ?_⟩
      have hok : (p_nums t n (p_wd (p_sel t n p)) (p_we t n p)).1 = true := hok
      show p + 4 ≤ (p_nums t n (p_wd (p_sel t n p)) (p_we t n p)).2.1
      have hl := p_sel_lt t n p
      rcases (by omega : p_sel t n p = 2 ∨ p_sel t n p ≠ 2) with q | q
      · rw [q] at hok h2 ⊢
        have h3 : (p_W (p_sel t n p)).length = 3 := by rw [q]; rfl
        have h4 := p_num_in (t := t) 3 h1.2
        by_cases h5 : (p_num t n 3 (p_we t n p)).1 = true
        · have e : (p_nums t n (p_wd 2) (p_we t n p)).2.1 = (p_num t n 3 (p_we t n p)).2.1 := by
            show (if (p_num t n 3 (p_we t n p)).1 = true then _ else _ : Bool × Nat × List Int).2.1 = _
            rw [if_pos h5]; rfl
          rw [e]
          have := h4.2.2 h5
          omega
        · exfalso
          have e : (p_nums t n (p_wd 2) (p_we t n p)).1 = false := by
            show (if (p_num t n 3 (p_we t n p)).1 = true then _ else _ : Bool × Nat × List Int).1 = _
            rw [if_neg h5]
          rw [e] at hok; cases hok
      · have h3 : 4 ≤ (p_W (p_sel t n p)).length := by
          rcases (by omega : p_sel t n p = 0 ∨ p_sel t n p = 1 ∨ p_sel t n p = 3 ∨ p_sel t n p = 4 ∨ p_sel t n p = 5 ∨ p_sel t n p = 6) with q | q | q | q | q | q <;> rw [q] <;> decide
        omega
  · rw [if_neg h]; exact ⟨h1.1, h1.2, fun q => by cases q⟩
theorem p_cmd_end {t : Nat → Int} {n p : Nat} (hp : n ≤ p) : (p_cmd t n p).1 = false ∧ (p_cmd t n p).2.1 = p := by
  have h1 : p_tx t n p = -1 := p_tx_ge hp
  have hs : p_sel t n p = 0 := by
    unfold p_sel
    rw [if_neg (by omega), if_neg (by omega), if_neg (by omega), if_neg (by omega), if_neg (by omega)]
  have hc : p_cl t n (p_W (p_sel t n p)) p = 0 := by
    rw [hs]; exact p_cl_0 (by omega)
  unfold p_cmd p_we
  rw [hc, if_neg (by rw [hs]; decide)]
  exact ⟨rfl, rfl⟩
theorem p_all_f {t : Nat → Int} {n : Nat} : ∀ (f p : Nat), p ≤ n → n ≤ p + 5 * f → p_all t n (f + 1) p = p_all t n f p
  | 0, p => fun h1 h2 => by
    have h := p_cmd_end (t := t) (n := n) (p := p) (by omega)
    show (if (p_cmd t n p).1 = true then _ else _ : Bool × Nat × List (Nat × List Int)) = (false, p, [])
    rw [h.1, if_neg (by decide), h.2]
  | f + 1, p => fun h1 h2 => by
    have hi := p_cmd_in (t := t) h1
    show (if (p_cmd t n p).1 = true then _ else _ : Bool × Nat × List (Nat × List Int)) = (if (p_cmd t n p).1 = true then _ else _)
    by_cases c1 : (p_cmd t n p).1 = true
    · rw [if_pos c1, if_pos c1]
      by_cases c2 : n ≤ (p_cmd t n p).2.1
      · rw [if_pos c2, if_pos c2]
      · rw [if_neg c2, if_neg c2]
        have := hi.2.2 c1
        rw [p_all_f f ((p_cmd t n p).2.1 + 1) (by omega) (by omega)]
    · rw [if_neg c1, if_neg c1]
/-! the commands' changes and faults -/
def c_r (M : Nat → Nat → Int) (c : Nat × List Int) : Int := match c.1 with
  | 0 => r_ship M
  | 1 => r_lamp M (c.2.getD 0 0)
  | 2 => r_oil M (c.2.getD 0 0)
  | 3 => r_lease M (c.2.getD 0 0) (c.2.getD 1 0) (c.2.getD 2 0)
  | 4 => r_req M (c.2.getD 0 0) (c.2.getD 1 0)
  | 5 => r_unl M (c.2.getD 0 0)
  | _ => r_wait (c.2.getD 0 0)
def c_m (M : Nat → Nat → Int) (c : Nat × List Int) : Nat → Nat → Int := match c.1 with
  | 0 => m_ship M
  | 1 => m_lamp M (c.2.getD 0 0)
  | 2 => m_oil M (c.2.getD 0 0)
  | 3 => m_lease M (c.2.getD 0 0).toNat (c.2.getD 1 0).toNat (c.2.getD 2 0)
  | 4 => m_req M (c.2.getD 0 0) (c.2.getD 1 0)
  | 5 => m_free M (c.2.getD 0 0).toNat
  | _ => m_pass M (c.2.getD 0 0).toNat
def c_let (s : Nat) (k : Int) : Int := match s with
  | 0 => 115
  | 1 => if k = 1 then 97 else 115
  | 2 => if k = 1 then 97 else 115
  | 3 => if k = 1 then 105 else if k = 2 then 97 else if k = 3 then 115 else 117
  | 4 => if k = 1 then 105 else if k = 2 then 97 else if k = 3 then 110 else 115
  | 5 => if k = 1 then 105 else 110
  | _ => 97
def c_bad (i : Nat) : List (Nat × List Int) → (Nat → Nat → Int) → Option (Nat × Nat × Int)
  | [], _ => none
  | c :: cs, M => if c_r M c = 0 then c_bad (i + 1) cs (c_m M c) else some (i, c.1, c_r M c)
def c_fin : List (Nat × List Int) → (Nat → Nat → Int) → (Nat → Nat → Int)
  | [], M => M
  | c :: cs, M => c_fin cs (c_m M c)
theorem wf_cmd {M : Nat → Nat → Int} {c : Nat × List Int} (h : o_wf M) (hr : c_r M c = 0) (hh : M 0 3 + 48 ≤ 1000000) : o_wf (c_m M c) ∧ (c_m M c) 0 3 ≤ M 0 3 + 48 := by
  obtain ⟨s, N⟩ := c
  match s, hr with
  | 0, hr => exact ⟨wf_ship h hr, by show m_ship M 0 3 ≤ _; rw [show m_ship M 0 3 = M 0 3 by simp [m_ship, o_e]]; omega⟩
  | 1, hr => exact ⟨wf_lamp h hr, by show m_lamp M (N.getD 0 0) 0 3 ≤ _; rw [show m_lamp M (N.getD 0 0) 0 3 = M 0 3 by simp [m_lamp, o_e]]; omega⟩
  | 2, hr => exact ⟨wf_oil h hr, by show m_oil M (N.getD 0 0) 0 3 ≤ _; rw [show m_oil M (N.getD 0 0) 0 3 = M 0 3 by simp [m_oil, o_e]]; omega⟩
  | 3, hr => exact ⟨wf_lease h hr, by show m_lease M (N.getD 0 0).toNat (N.getD 1 0).toNat (N.getD 2 0) 0 3 ≤ _; rw [show m_lease M (N.getD 0 0).toNat (N.getD 1 0).toNat (N.getD 2 0) 0 3 = M 0 3 by simp [m_lease, m_pay, o_e]]; omega⟩
  | 4, hr => exact ⟨(wf_req h hr).1, by show m_req M (N.getD 0 0) (N.getD 1 0) 0 3 ≤ _; rw [show m_req M (N.getD 0 0) (N.getD 1 0) 0 3 = M 0 3 by simp [m_req, o_e]]; omega⟩
  | 5, hr =>
    have hr : r_unl M (N.getD 0 0) = 0 := hr
    refine ⟨wf_free h hr, ?_⟩
    have hn : 0 ≤ N.getD 0 0 ∧ N.getD 0 0 < M 0 1 := by unfold r_unl at hr; split at hr <;> (try split at hr) <;> omega
    have := (ke_free h.1 (N.getD 0 0).toNat (by omega)).2.2.2.1
    show m_free M (N.getD 0 0).toNat 0 3 ≤ _
    omega
  | s + 6, hr =>
    have hr : r_wait (N.getD 0 0) = 0 := hr
    have hn : 1 ≤ N.getD 0 0 ∧ N.getD 0 0 ≤ 48 := by unfold r_wait at hr; split at hr <;> omega
    have := wf_pass h (N.getD 0 0).toNat (by omega)
    exact ⟨this.1, by show m_pass M (N.getD 0 0).toNat 0 3 ≤ _; rw [this.2]; omega⟩
theorem wf_fin : ∀ (cs : List (Nat × List Int)) (M : Nat → Nat → Int) (i : Nat), o_wf M → M 0 3 + 48 * cs.length ≤ 1000000 → c_bad i cs M = none → o_wf (c_fin cs M) ∧ (c_fin cs M) 0 3 ≤ M 0 3 + 48 * cs.length
  | [], M, i => fun h _ _ => ⟨h, by show M 0 3 ≤ _; simp⟩
  | c :: cs, M, i => fun h hh hb => by
    unfold c_bad at hb
    rw [List.length_cons] at hh
    by_cases q : c_r M c = 0
    · rw [if_pos q] at hb
      have h1 := wf_cmd h q (by omega)
      have h2 := wf_fin cs (c_m M c) (i + 1) h1.1 (by omega) hb
      refine ⟨h2.1, ?_⟩
      show (c_fin cs (c_m M c)) 0 3 ≤ _
      rw [List.length_cons]
      omega
    · rw [if_neg q] at hb; cases hb
