/-! ranks: every place is taken once -/
theorem sm_le {f g : Nat → Int} {n : Nat} (h : ∀ i, i < n → f i ≤ g i) : o_sm f n ≤ o_sm g n := by
  induction n with
  | zero => exact Int.le_refl 0
  | succ n ih =>
    have h1 := ih (fun i hi => h i (by omega))
    have h2 := h n (by omega)
    show o_sm f n + f n ≤ o_sm g n + g n
    omega
theorem sm_lt {f g : Nat → Int} {n k : Nat} (h : ∀ i, i < n → f i ≤ g i) (hk : k < n) (h0 : f k < g k) : o_sm f n < o_sm g n := by
  induction n with
  | zero => omega
  | succ n ih =>
    have h2 := h n (by omega)
    show o_sm f n + f n < o_sm g n + g n
    by_cases q : k = n
    · subst q
      have h1 := sm_le (f := f) (g := g) (n := k) (fun i hi => h i (by omega))
      omega
    · have h1 := ih (fun i hi => h i (by omega)) (by omega)
      omega
theorem sm_eq {f g : Nat → Int} {n : Nat} (h : ∀ i, i < n → f i = g i) : o_sm f n = o_sm g n := by
  have h1 := sm_le (f := f) (g := g) (n := n) (fun i hi => Int.le_of_eq (h i hi))
  have h2 := sm_le (f := g) (g := f) (n := n) (fun i hi => Int.le_of_eq (h i hi).symm)
  omega
theorem sm_add (f g : Nat → Int) (n : Nat) : o_sm (fun i => f i + g i) n = o_sm f n + o_sm g n := by
  induction n with
  | zero => rfl
  | succ n ih =>
    show o_sm (fun i => f i + g i) n + (f n + g n) = o_sm f n + f n + (o_sm g n + g n)
    omega
theorem sm_mul (c : Int) (f : Nat → Int) (n : Nat) : o_sm (fun i => c * f i) n = c * o_sm f n := by
  induction n with
  | zero => show (0 : Int) = c * 0; rw [Int.mul_zero]
  | succ n ih =>
    show o_sm (fun i => c * f i) n + c * f n = c * (o_sm f n + f n)
    rw [ih, Int.mul_add]
theorem sm_zero (n : Nat) : o_sm (fun _ => 0) n = 0 := by
  induction n with
  | zero => rfl
  | succ n ih => show o_sm (fun _ => 0) n + 0 = 0; omega
theorem sm_const (n : Nat) : o_sm (fun _ => 1) n = n := by
  induction n with
  | zero => rfl
  | succ n ih => show o_sm (fun _ => 1) n + 1 = _; omega
theorem sm_swap (f : Nat → Nat → Int) (n m : Nat) : o_sm (fun i => o_sm (fun j => f i j) m) n = o_sm (fun j => o_sm (fun i => f i j) n) m := by
  induction n with
  | zero => show 0 = o_sm (fun j => 0) m; rw [sm_zero]
  | succ n ih =>
    show o_sm (fun i => o_sm (fun j => f i j) m) n + o_sm (fun j => f n j) m = o_sm (fun j => o_sm (fun i => f i j) n + f n j) m
    rw [ih, sm_add]
theorem sm_one {x : Int} {m : Nat} (h0 : 0 ≤ x) : o_sm (fun r => o_b (x = (r : Int))) m = o_b (x < m) := by
  induction m with
  | zero => rw [o_b0 (by omega)]; rfl
  | succ m ih =>
    show o_sm (fun r => o_b (x = (r : Int))) m + o_b (x = (m : Int)) = _
    rw [ih]
    by_cases a : x < m
    · rw [o_b1 a, o_b0 (by omega), o_b1 (by omega)]; rfl
    · by_cases b : x = m
      · rw [o_b0 a, o_b1 b, o_b1 (by omega)]; rfl
      · rw [o_b0 a, o_b0 b, o_b0 (by omega)]; rfl
theorem sm_le1 {p : Nat → Prop} [DecidablePred p] {n : Nat} (h : ∀ i j, i < n → j < n → p i → p j → i = j) : o_sm (fun i => o_b (p i)) n ≤ 1 := by
  induction n with
  | zero => show (0 : Int) ≤ 1; decide
  | succ n ih =>
    have ih := ih (fun i j hi hj => h i j (by omega) (by omega))
    show o_sm (fun i => o_b (p i)) n + o_b (p n) ≤ 1
    by_cases q : p n
    · have : o_sm (fun i => o_b (p i)) n = o_sm (fun _ => 0) n := sm_eq (fun i hi => o_b0 (fun q2 => by have := h i n (by omega) (by omega) q2 q; omega))
      rw [this, sm_zero, o_b1 q]; decide
    · rw [o_b0 q]; omega
theorem o_b_mono {p q : Prop} [Decidable p] [Decidable q] (h : p → q) : o_b p ≤ o_b q := by
  by_cases c : p
  · rw [o_b1 c, o_b1 (h c)]; decide
  · rw [o_b0 c]; exact o_b_nn q
/-- an order by which every two differ -/
def o_ord (R : Nat → Nat → Prop) : Prop := (∀ i j k, R i j → R j k → R i k) ∧ (∀ i, ¬ R i i) ∧ ∀ i j, i ≠ j → R i j ∨ R j i
theorem rk_lt {P : Nat → Prop} [DecidablePred P] {R : Nat → Nat → Prop} [∀ i j, Decidable (R i j)] {n : Nat} (hR : o_ord R) {i j : Nat} (hi : i < n) (hP : P i) (h : R i j) : o_sm (fun k => o_b (P k ∧ R k i)) n < o_sm (fun k => o_b (P k ∧ R k j)) n := by
  refine sm_lt (k := i) (fun k _ => o_b_mono (fun q => ⟨q.1, hR.1 k i j q.2 h⟩)) hi ?_
  show o_b (P i ∧ R i i) < o_b (P i ∧ R i j)
  rw [o_b0 (fun q => hR.2.1 i q.2), o_b1 ⟨hP, h⟩]
  decide
theorem rk_top {P : Nat → Prop} [DecidablePred P] {R : Nat → Nat → Prop} [∀ i j, Decidable (R i j)] {n : Nat} (hR : o_ord R) {j : Nat} (hj : j < n) (hP : P j) : o_sm (fun k => o_b (P k ∧ R k j)) n < o_sm (fun k => o_b (P k)) n := by
  refine sm_lt (k := j) (fun k _ => o_b_mono (fun q => q.1)) hj ?_
  show o_b (P j ∧ R j j) < o_b (P j)
  rw [o_b0 (fun q => hR.2.1 j q.2), o_b1 hP]
  decide
theorem rk_inj {P : Nat → Prop} [DecidablePred P] {R : Nat → Nat → Prop} [∀ i j, Decidable (R i j)] {n : Nat} (hR : o_ord R) {i j : Nat} (hi : i < n) (hj : j < n) (hP : P i) (hQ : P j) (h : o_sm (fun k => o_b (P k ∧ R k i)) n = o_sm (fun k => o_b (P k ∧ R k j)) n) : i = j := by
  by_cases q : i = j
  · exact q
  · rcases hR.2.2 i j q with c | c
    · have := rk_lt (P := P) hR hi hP c; omega
    · have := rk_lt (P := P) hR hj hQ c; omega
theorem rk_R {P : Nat → Prop} [DecidablePred P] {R : Nat → Nat → Prop} [∀ i j, Decidable (R i j)] {n : Nat} {j : Nat} : 0 ≤ o_sm (fun k => o_b (P k ∧ R k j)) n := o_sm_nn (fun _ => o_b_nn _) n
theorem rk_ex {P : Nat → Prop} [DecidablePred P] {R : Nat → Nat → Prop} [∀ i j, Decidable (R i j)] {n : Nat} (hR : o_ord R) {r : Int} (h0 : 0 ≤ r) (h1 : r < o_sm (fun k => o_b (P k)) n) : ∃ j, j < n ∧ P j ∧ o_sm (fun k => o_b (P k ∧ R k j)) n = r := by
  by_cases hn : ∃ j, j < n ∧ P j ∧ o_sm (fun k => o_b (P k ∧ R k j)) n = r
  · exact hn
  · exfalso
    obtain ⟨m, hm⟩ : ∃ m : Nat, (m : Int) = o_sm (fun k => o_b (P k)) n := ⟨(o_sm (fun k => o_b (P k)) n).toNat, by omega⟩
    obtain ⟨r', rfl⟩ : ∃ r' : Nat, (r' : Int) = r := ⟨r.toNat, by omega⟩
    have e1 : o_sm (fun x : Nat => o_sm (fun j => o_b (P j ∧ o_sm (fun k => o_b (P k ∧ R k j)) n = (x : Int))) n) m = m := by
      rw [sm_swap (fun (x : Nat) j => o_b (P j ∧ o_sm (fun k => o_b (P k ∧ R k j)) n = (x : Int)))]
      rw [show o_sm (fun j => o_sm (fun x : Nat => o_b (P j ∧ o_sm (fun k => o_b (P k ∧ R k j)) n = (x : Int))) m) n = o_sm (fun j => o_b (P j)) n from sm_eq (fun j hj => ?_)]
      · exact hm.symm
      · by_cases q : P j
        · have t := rk_top (P := P) hR hj q
          rw [show o_sm (fun x : Nat => o_b (P j ∧ o_sm (fun k => o_b (P k ∧ R k j)) n = (x : Int))) m = o_sm (fun x : Nat => o_b (o_sm (fun k => o_b (P k ∧ R k j)) n = (x : Int))) m from sm_eq (fun x _ => o_bc ⟨fun z => z.2, fun z => ⟨q, z⟩⟩), sm_one rk_R, o_b1 (by omega), o_b1 q]
        · rw [show o_sm (fun x : Nat => o_b (P j ∧ o_sm (fun k => o_b (P k ∧ R k j)) n = (x : Int))) m = o_sm (fun _ => 0) m from sm_eq (fun x _ => o_b0 (fun z => q z.1)), sm_zero, o_b0 q]
    have e2 : o_sm (fun x : Nat => o_sm (fun j => o_b (P j ∧ o_sm (fun k => o_b (P k ∧ R k j)) n = (x : Int))) n) m < o_sm (fun _ => 1) m := by
      refine sm_lt (k := r') (fun x _ => sm_le1 (fun i j hi hj a b => rk_inj (P := P) hR hi hj a.1 b.1 (a.2.trans b.2.symm))) (by omega) ?_
      show o_sm (fun j => o_b (P j ∧ o_sm (fun k => o_b (P k ∧ R k j)) n = (r' : Int))) n < 1
      rw [show o_sm (fun j => o_b (P j ∧ o_sm (fun k => o_b (P k ∧ R k j)) n = (r' : Int))) n = o_sm (fun _ => 0) n from sm_eq (fun j hj => o_b0 (fun z => hn ⟨j, hj, z.1, z.2⟩)), sm_zero]
      decide
    rw [sm_const] at e2
    omega
