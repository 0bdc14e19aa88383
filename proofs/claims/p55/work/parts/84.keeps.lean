/-! what stays true from call to call -/
def w_ok (n : Nat) (M : Nat → Nat → Int) : Prop := o_wf M ∧ M 0 3 ≤ 576 * (n : Int)
def w_in (n : Nat) (M : Nat → Nat → Int) (P : List (Nat → Nat → Int)) (S : Option (Nat → Nat → Int)) (T : Nat → Nat → Int) : Prop := w_ok n M ∧ (∀ B ∈ P, w_ok n B) ∧ (∀ B, S = some B → w_ok n B) ∧ o_tk T ∧ (0 ≤ T 0 1 ∧ T 0 1 ≤ 104) ∧ ∀ j : Nat, (j : Int) < T 0 1 → 0 ≤ T 2 j ∧ T 2 j < 128
theorem w_ok.s {n : Nat} {M : Nat → Nat → Int} (h : w_ok n M) : w_ok (n + 1) M := ⟨h.1, by have := h.2; omega⟩
section WIN
variable {n : Nat} {M M' T : Nat → Nat → Int} {P : List (Nat → Nat → Int)} {S : Option (Nat → Nat → Int)}
theorem w_in.s (h : w_in n M P S T) : w_in (n + 1) M P S T := ⟨h.1.s, fun B hB => (h.2.1 B hB).s, fun B hB => (h.2.2.1 B hB).s, h.2.2.2⟩
theorem w_in.m (h : w_in n M P S T) (hM : w_ok (n + 1) M') : w_in (n + 1) M' (h_push P M) S T := by
  refine ⟨hM, fun B hB => ?_, fun B hB => (h.2.2.1 B hB).s, h.2.2.2⟩
  unfold h_push at hB
  rcases List.mem_append.mp hB with q | q
  · by_cases c : P.length < 8
    · rw [if_pos c] at q; exact (h.2.1 B q).s
    · rw [if_neg c] at q; exact (h.2.1 B (List.mem_of_mem_tail q)).s
  · rw [List.mem_singleton.mp q]; exact h.1.s
theorem w_in.chg {r : Int} (h : w_in n M P S T) (hM : r = 0 → w_ok (n + 1) M') : w_in (n + 1) (if r = 0 then M' else M) (if r = 0 then h_push P M else P) S T := by
  by_cases c : r = 0
  · rw [if_pos c, if_pos c]; exact h.m (hM c)
  · rw [if_neg c, if_neg c]; exact h.s
theorem w_hh (h : w_ok n M) (hn : n ≤ 512) : M 0 3 + 600 ≤ 1000000 := by have := h.2; omega
theorem w_cmd {c : Nat × List Int} (h : w_ok n M) (hn : n ≤ 512) (hr : c_r M c = 0) : w_ok (n + 1) (c_m M c) := by
  have hh := w_hh h hn
  have q := wf_cmd h.1 hr (by omega)
  exact ⟨q.1, by have := q.2; have := h.2; omega⟩
theorem w_tk {T' : Nat → Nat → Int} (h : w_in n M P S T) (ht : o_tk T') (h1 : T' 0 1 = T 0 1) (h2 : T' 2 = T 2) : w_in n M P S T' :=
  ⟨h.1, h.2.1, h.2.2.1, ht, by rw [h1]; exact h.2.2.2.2.1, by rw [h1, h2]; exact h.2.2.2.2.2⟩
theorem w_feed {c : Int} (h : w_in n M P S T) (hc : 0 ≤ c ∧ c < 65536) (hT : T 0 0 < 60) : w_in (n + 1) M P S (t_feed T c) := by
  obtain ⟨k0, k1, k2, k3, k4, k5⟩ := h.2.2.2.1
  have e0 : t_feed T c 0 0 = T 0 0 + 1 := by simp [t_feed, o_e]
  have e1 : ∀ j : Nat, t_feed T c 0 (j + 1) = T 0 (j + 1) := fun j => by simp [t_feed, o_e]
  have e2 : ∀ j : Nat, t_feed T c 1 j = if j = (T 0 0).toNat then c else T 1 j := fun j => by simp [t_feed, o_e]
  refine w_tk h.s ⟨by rw [e0]; omega, by rw [e0]; omega, fun j hj => ?_, by rw [e1 1]; exact k3, by rw [e1 2]; exact k4, by rw [e1 3]; exact k5⟩ (e1 0) (by funext j; simp [t_feed, o_e])
  rw [e0] at hj
  rw [e2]
  by_cases q : j = (T 0 0).toNat
  · rw [if_pos q]; exact hc
  · rw [if_neg q]; exact k2 j (by omega)
theorem t_all_ch {M : Nat → Nat → Int} : ∀ n : Nat, ∀ c ∈ t_all M n, 0 ≤ c ∧ c < 128
  | 0 => fun c hc => by cases hc
  | n + 1 => fun c hc => by
    have lit : ∀ (p : Prop) [Decidable p] (z : Int) (_ : 0 ≤ z ∧ z < 128) (L : List Int) (_ : ∀ c ∈ L, 0 ≤ c ∧ c < 128), ∀ c ∈ (if p then [z] ++ L else []), 0 ≤ c ∧ c < 128 := by
      intro p _ z hz L hL c hc
      by_cases h : p
      · rw [if_pos h] at hc
        rcases List.mem_append.mp hc with q | q
        · rw [List.mem_singleton.mp q]; exact hz
        · exact hL c q
      · rw [if_neg h] at hc; cases hc
    have lit1 : ∀ (p : Prop) [Decidable p] (z : Int) (_ : 0 ≤ z ∧ z < 128), ∀ c ∈ (if p then [z] else []), 0 ≤ c ∧ c < 128 := by
      intro p _ z hz c hc
      by_cases h : p
      · rw [if_pos h] at hc
        rw [List.mem_singleton.mp hc]; exact hz
      · rw [if_neg h] at hc; cases hc
    have hc : c ∈ t_all M n ++ t_lamp M n := hc
    rcases List.mem_append.mp hc with q | q
    · exact t_all_ch n c q
    · unfold t_lamp at q
      rcases List.mem_append.mp q with q | q
      · exact lit1 _ 32 (by omega) c q
      · rcases List.mem_append.mp q with q | q
        · exact t_nf_ch 8 _ c q
        · rcases List.mem_append.mp q with q | q
          · refine lit _ 115 (by omega) _ (fun c hc => ?_) c q
            rcases List.mem_append.mp hc with q | q
            · exact t_nf_ch 8 _ c q
            · rcases List.mem_append.mp q with q | q
              · rw [List.mem_singleton.mp q]; omega
              · exact t_nf_ch 8 _ c q
          · exact lit1 _ 114 (by omega) c q
theorem w_out (h : w_in n M P S T) : w_in (n + 1) M P S (t_out T (t_all M (M 0 1).toNat)) := by
  obtain ⟨k0, k1, k2, k3, k4, k5⟩ := h.2.2.2.1
  have h8 := h.1.1.1.2.1
  have hl := t_all_l h.1.1 (M 0 1).toNat (by have := h8.1; omega)
  have hl8 : (t_all M (M 0 1).toNat).length ≤ 104 := by have := h8.1; have := h8.2.1; omega
  have e1 : t_out T (t_all M (M 0 1).toNat) 0 1 = ((t_all M (M 0 1).toNat).length : Int) := by unfold t_out; rw [if_pos ⟨rfl, rfl⟩]
  refine ⟨h.1.s, fun B hB => (h.2.1 B hB).s, fun B hB => (h.2.2.1 B hB).s, ⟨?_, ?_, ?_, ?_, ?_, ?_⟩, ⟨by rw [e1]; omega, by rw [e1]; omega⟩, fun j hj => ?_⟩
  · exact k0
  · exact k1
  · exact k2
  · exact k3
  · exact k4
  · exact k5
  · rw [e1] at hj
    have hj9 : j < (t_all M (M 0 1).toNat).length := by omega
    show 0 ≤ t_out T (t_all M (M 0 1).toNat) 2 j ∧ t_out T (t_all M (M 0 1).toNat) 2 j < 128
    unfold t_out
    rw [if_neg (by omega), if_pos rfl, List.getD_eq_getElem?_getD, List.getElem?_eq_getElem hj9]
    exact t_all_ch _ _ (List.getElem_mem hj9)
theorem p_all_in {t : Nat → Int} {n : Nat} : ∀ (f p : Nat), p ≤ n → (p_all t n f p).2.1 ≤ n
  | 0, p => fun hp => hp
  | f + 1, p => fun hp => by
    have hi := p_cmd_in (t := t) hp
    unfold p_all
    by_cases c1 : (p_cmd t n p).1 = true
    · rw [if_pos c1]
      by_cases c2 : n ≤ (p_cmd t n p).2.1
      · rw [if_pos c2]; exact hi.2.1
      · rw [if_neg c2]
        by_cases c3 : p_tx t n (p_cmd t n p).2.1 = 59
        · rw [if_pos c3]; exact p_all_in f _ (by omega)
        · rw [if_neg c3]; exact hi.2.1
    · rw [if_neg c1]; exact hi.2.1
theorem c_let_R (s : Nat) (k : Int) : 0 ≤ c_let s k ∧ c_let s k < 65536 := by
  unfold c_let
  split <;> (repeat' split) <;> omega
theorem w_run (h : w_in n M P S T) (hn : n ≤ 512) : w_in (n + 1) (x_M T M) (x_P T M P) S (x_T T M) := by
  obtain ⟨k0, k1, k2, k3, k4, k5⟩ := h.2.2.2.1
  have hh := w_hh h.1 hn
  have hpos : (x_r T).2.1 ≤ (T 0 0).toNat := p_all_in 12 0 (Nat.zero_le _)
  have hlen : (x_r T).1 = true → (x_r T).2.2.length ≤ 12 := fun hok => by
    have := (p_all_ok (t := T 1) (n := (T 0 0).toNat) 12 0 (Nat.zero_le _) hok).2
    show (p_all (T 1) (T 0 0).toNat 12 0).2.2.length ≤ 12
    omega
  have hMP : w_in (n + 1) (x_M T M) (x_P T M P) S T := by
    unfold x_M x_P
    by_cases c : x_k T M = 0
    · rw [if_pos c, if_pos c]
      refine h.m ?_
      unfold x_k at c
      by_cases hok : (x_r T).1 = true
      · rw [if_pos hok] at c
        have h12 := hlen hok
        have hb : c_bad 0 (x_r T).2.2 M = none := by
          rcases e : c_bad 0 (x_r T).2.2 M with _ | b
          · rfl
          · rw [e] at c; exact absurd (show (2 : Int) = 0 from c) (by decide)
        have q := wf_fin (x_r T).2.2 M 0 h.1.1 (by omega) hb
        exact ⟨q.1, by have := q.2; have := h.1.2; omega⟩
      · rw [if_neg hok] at c; exact absurd c (by decide)
    · rw [if_neg c, if_neg c]; exact h.s
  refine w_tk hMP ?_ ?_ ?_
  · unfold x_T
    by_cases hok : (x_r T).1 = true
    · rw [if_pos hok]
      have h12 := hlen hok
      rcases e : c_bad 0 (x_r T).2.2 M with _ | b
      · refine ⟨by simp [o_e], by simp [o_e], fun j hj => ?_, by simpa [o_e] using k3, by simpa [o_e] using k4, by simpa [o_e] using k5⟩
        have hj : (j : Int) < 0 := by simpa [o_e] using hj
        omega
      · have hb := c_bad_i _ _ _ _ e
        have hl := c_let_R b.2.1 b.2.2
        refine ⟨by simp [o_e], by simp [o_e], fun j hj => ?_, by simpa [o_e] using k3, ?_, by simpa [o_e] using hl⟩
        · have hj : (j : Int) < 0 := by simpa [o_e] using hj
          omega
        · have : (-1 : Int) ≤ (b.1 : Int) ∧ (b.1 : Int) ≤ 12 := by omega
          simpa [o_e] using this
    · rw [if_neg hok]
      refine ⟨by simp [o_e], by simp [o_e], fun j hj => ?_, ?_, by simpa [o_e] using k4, by simpa [o_e] using k5⟩
      · have hj : (j : Int) < 0 := by simpa [o_e] using hj
        omega
      · have : (-1 : Int) ≤ ((x_r T).2.1 : Int) ∧ ((x_r T).2.1 : Int) ≤ 60 := by omega
        simpa [o_e] using this
  · unfold x_T
    by_cases hok : (x_r T).1 = true
    · rw [if_pos hok]
      rcases e : c_bad 0 (x_r T).2.2 M with _ | b <;> simp [o_e]
    · rw [if_neg hok]; simp [o_e]
  · unfold x_T
    by_cases hok : (x_r T).1 = true
    · rw [if_pos hok]
      rcases e : c_bad 0 (x_r T).2.2 M with _ | b <;> (funext j; simp [o_e])
    · rw [if_neg hok]; funext j; simp [o_e]
end WIN
