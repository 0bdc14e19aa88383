/-! a contract beside other cells, which stay: the frame -/
def f_Z (Z : o_Z) (X : Nat → Prop) : o_Z := (Z.1, Z.2.1, Z.2.2.1, Z.2.2.2.1, Z.2.2.2.2.1, fun q => Z.2.2.2.2.2 q ∨ X q)
theorem f_A {Z : o_Z} {X : Nat → Prop} {q : Nat} : o_A (f_Z Z X) q ↔ (o_A Z q ∧ ¬ X q) :=
  ⟨fun h => ⟨⟨h.1, fun z => h.2 (Or.inl z)⟩, fun z => h.2 (Or.inr z)⟩, fun h => ⟨h.1.1, fun z => z.elim h.1.2 h.2⟩⟩
theorem o_E2.narrow {A B : Nat → Prop} {ad : Nat → Nat} {U : State} {H : Heap} (h : o_E2 A ad U H) (hAB : ∀ q, B q → A q) : o_E2 B ad U H := by
  obtain ⟨⟨a1, a2, a3⟩, b, c, d1, d2, d3, d4, d5, d6, d7, d8, d9⟩ := h
  refine ⟨⟨a1.narrow hAB, a2.narrow hAB, a3.narrow hAB⟩, fun q h9 => ?_, fun i q h9 => ?_, d1.narrow hAB, d2.narrow hAB, d3.narrow hAB, d4.narrow hAB, d5.narrow hAB, d6.narrow hAB, d7.narrow hAB, d8.narrow hAB, ?_⟩
  · obtain ⟨e1, e2, e3, e4⟩ := b q h9
    exact ⟨e1.narrow hAB, e2.narrow hAB, e3.narrow hAB, e4.narrow hAB⟩
  · obtain ⟨e1, e2, e3, e4, e5, e6⟩ := c i q h9
    exact ⟨e1.narrow hAB, e2.narrow hAB, e3.narrow hAB, e4.narrow hAB, e5.narrow hAB, e6.narrow hAB⟩
  · rcases d9 with e | e
    · exact Or.inl (e.narrow hAB)
    · exact Or.inr (e.narrow hAB)
theorem f_Ex {Z : o_Z} {X : Nat → Prop} {ad : Nat → Nat} {U : State} (h : o_Ex Z ad U) (hX : ∀ q : Nat, X q → q < U.heap.size) : o_Ex (f_Z Z X) ad U := by
  obtain ⟨h1, h2, h3, h5, h6, h7⟩ := h
  exact ⟨⟨h1.1, fun q hq => f_A.mpr ⟨h1.2 q hq, fun x => by have := hX q x; omega⟩⟩, h2, h3, h5, h6.narrow (fun a ha => (f_A.mp ha).1), h7⟩
theorem rW_iff {ad : Nat → Nat} {cy : Nat → ClassId} {n k : Nat} {h : Nat → o_C} {q : Nat × va_E} : (o_rW ad cy n h)[k]? = some q ↔ k < n ∧ q = (ad k, o_rC ad cy (h k)) := by
  constructor
  · intro z
    by_cases hk : k < n
    · rw [o_rW_get hk rfl] at z
      exact ⟨hk, (Option.some.inj z).symm⟩
    · rw [List.getElem?_eq_none (by simp [o_rW]; omega)] at z
      cases z
  · rintro ⟨hk, rfl⟩
    exact o_rW_get hk rfl
theorem at_cell {D : va_G} {cl : List vw_C} {q : Nat × va_E} {H : Heap} (h : va_at D cl q H) : ∃ c, H[q.1]? = some c := by
  obtain ⟨a, e⟩ := q
  cases e with
  | inl x => exact ⟨_, h⟩
  | inr o =>
    obtain ⟨r, -, cell, g1, -⟩ := h
    exact ⟨cell, g1⟩
theorem rC_ok {ad ad' : Nat → Nat} {cy : Nat → ClassId} {n : Nat} {c : o_C} (hc : o_okC n c) (e : ∀ r, r < n ∨ 1000000 ≤ r → ad' r = ad r) : o_rC ad' cy c = o_rC ad cy c := by
  rcases c with ⟨t, len, f⟩ | ⟨ci, fs⟩
  · rcases f with f | f | f | f | f
    · rfl
    · rfl
    · rfl
    · rfl
    · show (Sum.inl (cy t, (len, Sum.inr (Sum.inr (Sum.inr (Sum.inr (fun j => (f j).map ad')))))) : va_E) = Sum.inl (cy t, (len, Sum.inr (Sum.inr (Sum.inr (Sum.inr (fun j => (f j).map ad))))))
      rw [show (fun j => (f j).map ad') = fun j => (f j).map ad from funext fun j => by
        rcases hj : f j with _ | r
        · rfl
        · exact congrArg some (e r (hc j r hj))]
  · show (Sum.inr (ci, fs.map (o_rV ad')) : va_E) = Sum.inr (ci, fs.map (o_rV ad))
    congr 2
    refine List.map_congr_left fun v hv => ?_
    cases v with
    | ref k => exact congrArg Value.ref (e k (hc _ hv k rfl))
    | _ => rfl
/-- the heap h of n cells, beside the cells of G from n on -/
def f_h (n : Nat) (h G : Nat → o_C) : Nat → o_C := fun k => if k < n then h k else G k
def f_P (n N : Nat) (G : Nat → o_C) (post : o_P) : o_P := fun o n' h' => n' = N ∧ ∃ h0, post o n h0 ∧ h' = f_h n h0 G
theorem f_Rp {Z : o_Z} {ad ad' : Nat → Nat} {n N : Nat} {h G : Nat → o_C} {H H1 : Heap} {al : Nat → Prop} (hN : n ≤ N) (hN9 : N ≤ 1000000) (hal9 : ∀ k, al k → k < 1000000) (hok : o_ok n h)
    (hGr : ∀ k, n ≤ k → k < N → ∀ (ad1 ad2 : Nat → Nat) (cy : Nat → ClassId), (∀ r, ¬ (al r ∧ r < n) → ad1 r = ad2 r) → o_rC ad1 cy (G k) = o_rC ad2 cy (G k))
    (R : o_Rp Z ad N G H) (hag : o_ag al ad ad') (R' : o_Rp (f_Z Z (fun q => ∃ k, n ≤ k ∧ k < N ∧ q = ad k)) ad' n h H1) (hkeep : ∀ k, n ≤ k → k < N → H1[ad k]? = H[ad k]?) :
    o_Rp Z (fun k => if k < n then ad' k else ad k) N (f_h n h G) H1 := by
  have e1 : ∀ k, k < n → (fun k => if k < n then ad' k else ad k) k = ad' k := fun k hk => if_pos hk
  have e2 : ∀ k, n ≤ k → (fun k => if k < n then ad' k else ad k) k = ad k := fun k hk => if_neg (by omega)
  have e3 : ∀ k, k < n → f_h n h G k = h k := fun k hk => if_pos hk
  have e4 : ∀ k, n ≤ k → f_h n h G k = G k := fun k hk => if_neg (by omega)
  have e5 : ∀ r, r < n ∨ 1000000 ≤ r → (fun k => if k < n then ad' k else ad k) r = ad' r := fun r hr => by
    rcases Nat.lt_or_ge r n with q | q
    · exact e1 r q
    · rw [e2 r q]
      exact (hag r (fun z => by have := hal9 r z; omega)).symm
  have e6 : ∀ r, ¬ (al r ∧ r < n) → (fun k => if k < n then ad' k else ad k) r = ad r := fun r hr => by
    rcases Nat.lt_or_ge r n with q | q
    · rw [e1 r q]
      exact hag r (fun z => hr ⟨z, q⟩)
    · exact e2 r q
  refine ⟨fun k q hk => ?_, fun i j p q hi hj e => ?_, fun k q hk => ?_⟩
  · obtain ⟨hk1, rfl⟩ := rW_iff.mp hk
    rcases Nat.lt_or_ge k n with w | w
    · have := R'.1 k (ad' k, o_rC ad' Z.2.2.1 (h k)) (rW_iff.mpr ⟨w, rfl⟩)
      rw [if_pos w, e3 k w, rC_ok (hok k w) e5]
      exact this
    · have := (R.1 k (ad k, o_rC ad Z.2.2.1 (G k)) (rW_iff.mpr ⟨hk1, rfl⟩)).kept (hkeep k w hk1)
      rw [if_neg (show ¬ k < n by omega), e4 k w, hGr k w hk1 _ ad Z.2.2.1 e6]
      exact this
  · obtain ⟨hi1, rfl⟩ := rW_iff.mp hi
    obtain ⟨hj1, rfl⟩ := rW_iff.mp hj
    have a1 : ∀ k, k < n → o_A (f_Z Z (fun q => ∃ k, n ≤ k ∧ k < N ∧ q = ad k)) (ad' k) := fun k hk => R'.2.2 k _ (rW_iff.mpr ⟨hk, rfl⟩)
    simp only at e
    rcases Nat.lt_or_ge i n with wi | wi <;> rcases Nat.lt_or_ge j n with wj | wj
    · rw [if_pos wi, if_pos wj] at e
      exact R'.2.1 i j _ _ (rW_iff.mpr ⟨wi, rfl⟩) (rW_iff.mpr ⟨wj, rfl⟩) e
    · rw [if_pos wi, if_neg (by omega)] at e
      exact absurd ⟨j, wj, hj1, e⟩ (f_A.mp (a1 i wi)).2
    · rw [if_neg (by omega), if_pos wj] at e
      exact absurd ⟨i, wi, hi1, e.symm⟩ (f_A.mp (a1 j wj)).2
    · rw [if_neg (by omega), if_neg (by omega)] at e
      exact R.2.1 i j _ _ (rW_iff.mpr ⟨hi1, rfl⟩) (rW_iff.mpr ⟨hj1, rfl⟩) e
  · obtain ⟨hk1, rfl⟩ := rW_iff.mp hk
    show o_A Z (if k < n then ad' k else ad k)
    rcases Nat.lt_or_ge k n with w | w
    · rw [if_pos w]
      exact (f_A.mp (R'.2.2 k _ (rW_iff.mpr ⟨w, rfl⟩))).1
    · rw [if_neg (by omega)]
      exact R.2.2 k _ (rW_iff.mpr ⟨hk1, rfl⟩)
theorem o_Ct.fr {l : Launch} {y : MethodName} {cw : Cond} {d mc ms n N : Nat} {al : Nat → Prop} {av : List Value} {h G : Nat → o_C} {post : o_P} (hC : o_Ct l y cw d al av n h mc ms post)
    (hN : n ≤ N) (hN9 : N ≤ 1000000) (hal9 : ∀ k, al k → k < 1000000) (hG : ∀ k, k < n → G k = h k)
    (hp : ∀ o n' h', post o n' h' → n' = n ∧ o_ok n h' ∧ ∀ k, o = .inl (some (.ref k)) → k < n ∨ 1000000 ≤ k)
    (hGr : ∀ k, n ≤ k → k < N → ∀ (ad1 ad2 : Nat → Nat) (cy : Nat → ClassId), (∀ r, ¬ (al r ∧ r < n) → ad1 r = ad2 r) → o_rC ad1 cy (G k) = o_rC ad2 cy (G k)) :
    o_Ct l y cw d (fun k => al k ∧ k < n) av N G mc ms (f_P n N G post) := by
  intro Z ad p e h1 h2 h3 s m args below h4 h5 h6 h7
  obtain ⟨u1, E, R⟩ := h6
  have hX : ∀ q : Nat, (∃ k, n ≤ k ∧ k < N ∧ q = ad k) → q < s.heap.size := by
    rintro q ⟨k, hk1, hk2, rfl⟩
    obtain ⟨c, hc⟩ := at_cell (R.1 k _ (rW_iff.mpr ⟨hk2, rfl⟩))
    have hc : s.heap[ad k]? = some c := hc
    rcases Nat.lt_or_ge (ad k) s.heap.size with w | w
    · exact w
    · rw [Array.getElem?_eq_none w] at hc
      cases hc
  have R' : o_Rp (f_Z Z (fun q => ∃ k, n ≤ k ∧ k < N ∧ q = ad k)) ad n h s.heap := by
    have hg : ∀ (k : Nat) (q : Nat × va_E), (o_rW ad Z.2.2.1 n h)[k]? = some q → (o_rW ad Z.2.2.1 N G)[k]? = some q := fun k q hk => by
      obtain ⟨hk1, rfl⟩ := rW_iff.mp hk
      exact rW_iff.mpr ⟨by omega, by rw [hG k hk1]⟩
    refine ⟨fun k q hk => R.1 k q (hg k q hk), fun i j p9 q hi hj e9 => R.2.1 i j p9 q (hg i p9 hi) (hg j q hj) e9, fun k q hk => f_A.mpr ⟨R.2.2 k q (hg k q hk), ?_⟩⟩
    obtain ⟨hk1, rfl⟩ := rW_iff.mp hk
    rintro ⟨j, hj1, hj2, e9⟩
    have := R.2.1 k j _ _ (rW_iff.mpr ⟨by omega, rfl⟩) (rW_iff.mpr ⟨hj2, rfl⟩) e9
    omega
  have hkp : ∀ {H1 : Heap}, (∀ q : Nat, q < s.heap.size → ¬ o_A (f_Z Z (fun q => ∃ k, n ≤ k ∧ k < N ∧ q = ad k)) q → H1[q]? = s.heap[q]?) → ∀ k, n ≤ k → k < N → H1[ad k]? = s.heap[ad k]? := fun h9 k hk1 hk2 => h9 _ (hX _ ⟨k, hk1, hk2, rfl⟩) (fun z => (f_A.mp z).2 ⟨k, hk1, hk2, rfl⟩)
  have hF : ∀ {t : State}, va_F (o_A (f_Z Z (fun q => ∃ k, n ≤ k ∧ k < N ∧ q = ad k))) s t → va_F (o_A Z) s t := fun z => ⟨z.1, fun q h8 h9 => z.2 q h8 (fun w => h9 (f_A.mp w).1)⟩
  have hagc : ∀ {ad' : Nat → Nat}, o_ag al ad ad' → o_ag (fun k => al k ∧ k < n) ad (fun k => if k < n then ad' k else ad k) := fun hag k hk => by
    show (if k < n then _ else ad k) = ad k
    by_cases w : k < n
    · rw [if_pos w]; exact hag k (fun z => hk ⟨z, w⟩)
    · rw [if_neg w]
  obtain ⟨k, o, a1, a2, a3, a4⟩ := hC (f_Z Z (fun q => ∃ k, n ≤ k ∧ k < N ∧ q = ad k)) ad p e h1 h2 h3 s m args below h4 h5 ⟨u1, f_Ex E hX, R'⟩ h7
  refine ⟨k, o, a1, a2, a3, ?_⟩
  rcases a4 with ⟨⟨⟨v, n', h', ad', b1, b2, b3, b4⟩, b5⟩, L, b6, b7⟩ | ⟨q, b1, E9, ce, L, ⟨⟨n', h', ad', b2, b3, b4⟩, b5⟩, c1, c2, c3, c4, c5, c6⟩
  · obtain ⟨rfl, ok9, hv9⟩ := hp _ _ _ b2
    refine Or.inl ⟨⟨⟨v, N, f_h n' h' G, fun k => if k < n' then ad' k else ad k, ?_, ⟨rfl, h', b2, rfl⟩, hagc b3, f_Rp hN hN9 hal9 ok9 hGr R b3 b4 (hkp b5.2)⟩, hF b5⟩, L, b6, fun q hq => (f_A.mp (b7 q hq)).1⟩
    rw [b1]
    congr 1
    rcases v with _ | v
    · rfl
    · cases v with
      | ref r =>
        show some (Value.ref (ad' r)) = some (Value.ref (if r < n' then ad' r else ad r))
        congr 2
        by_cases w : r < n'
        · rw [if_pos w]
        · rw [if_neg w]
          exact b3 r (fun z => (hv9 r rfl).elim (fun q => w q) (fun q => Nat.not_lt.mpr q (hal9 r z)))
      | _ => rfl
  · obtain ⟨rfl, ok9, hv9⟩ := hp _ _ _ b2
    exact Or.inr ⟨q, b1, E9, ce, L, ⟨⟨N, f_h n' h' G, fun k => if k < n' then ad' k else ad k, ⟨rfl, h', b2, rfl⟩, hagc b3, f_Rp hN hN9 hal9 ok9 hGr R b3 b4 (hkp b5.2)⟩, hF b5⟩, c1, c2, c3, c4, c5, fun z hz => (f_A.mp (c6 z hz)).1⟩
