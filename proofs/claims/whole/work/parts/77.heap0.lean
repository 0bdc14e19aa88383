/-! the first heap -/
def x_g0 : Nat → Nat → Int := fun a j => if a = 0 then (if j = 9 ∨ j = 10 then -1 else if j = 11 then 32 else 0) else if a = 190 then (if j = 9 then 16 else 0) else if a = 192 then (if j = 14 ∨ j = 15 then -1 else 0) else 0
def x_L0 : List o_C := x_c11 0 ++ (x_c12 192 ++ [.inl (4, 1, .inr (.inl (fun _ => 0))), .inl (5, 1, .inr (.inr (.inr (.inl (fun _ => 0)))))])
def x_h1 : Nat → o_C := o_up (o_up (o_hL x_L0) 44 (.inl (7, 8, .inr (.inr (.inr (.inr (fun j => some (45 + 14 * j)))))))) 165 (.inl (6, 12, .inr (.inr (.inr (.inr (fun j => some (166 + 2 * j)))))))
set_option maxRecDepth 100000 in
set_option maxHeartbeats 4000000 in
theorem x_h1_eq : ∀ k, k < 203 → x_h1 k = o_mem x_g0 k
  | 0, _ => rfl
  | 1, _ => rfl
  | 2, _ => rfl
  | 3, _ => rfl
  | 4, _ => rfl
  | 5, _ => rfl
  | 6, _ => rfl
  | 7, _ => rfl
  | 8, _ => rfl
  | 9, _ => rfl
  | 10, _ => rfl
  | 11, _ => rfl
  | 12, _ => rfl
  | 13, _ => rfl
  | 14, _ => rfl
  | 15, _ => rfl
  | 16, _ => rfl
  | 17, _ => rfl
  | 18, _ => rfl
  | 19, _ => rfl
  | 20, _ => rfl
  | 21, _ => rfl
  | 22, _ => rfl
  | 23, _ => rfl
  | 24, _ => rfl
  | 25, _ => rfl
  | 26, _ => rfl
  | 27, _ => rfl
  | 28, _ => rfl
  | 29, _ => rfl
  | 30, _ => rfl
  | 31, _ => rfl
  | 32, _ => rfl
  | 33, _ => rfl
  | 34, _ => rfl
  | 35, _ => rfl
  | 36, _ => rfl
  | 37, _ => rfl
  | 38, _ => rfl
  | 39, _ => rfl
  | 40, _ => rfl
  | 41, _ => rfl
  | 42, _ => rfl
  | 43, _ => rfl
  | 44, _ => rfl
  | 45, _ => rfl
  | 46, _ => rfl
  | 47, _ => rfl
  | 48, _ => rfl
  | 49, _ => rfl
  | 50, _ => rfl
  | 51, _ => rfl
  | 52, _ => rfl
  | 53, _ => rfl
  | 54, _ => rfl
  | 55, _ => rfl
  | 56, _ => rfl
  | 57, _ => rfl
  | 58, _ => rfl
  | 59, _ => rfl
  | 60, _ => rfl
  | 61, _ => rfl
  | 62, _ => rfl
  | 63, _ => rfl
  | 64, _ => rfl
  | 65, _ => rfl
  | 66, _ => rfl
  | 67, _ => rfl
  | 68, _ => rfl
  | 69, _ => rfl
  | 70, _ => rfl
  | 71, _ => rfl
  | 72, _ => rfl
  | 73, _ => rfl
  | 74, _ => rfl
  | 75, _ => rfl
  | 76, _ => rfl
  | 77, _ => rfl
  | 78, _ => rfl
  | 79, _ => rfl
  | 80, _ => rfl
  | 81, _ => rfl
  | 82, _ => rfl
  | 83, _ => rfl
  | 84, _ => rfl
  | 85, _ => rfl
  | 86, _ => rfl
  | 87, _ => rfl
  | 88, _ => rfl
  | 89, _ => rfl
  | 90, _ => rfl
  | 91, _ => rfl
  | 92, _ => rfl
  | 93, _ => rfl
  | 94, _ => rfl
  | 95, _ => rfl
  | 96, _ => rfl
  | 97, _ => rfl
  | 98, _ => rfl
  | 99, _ => rfl
  | 100, _ => rfl
  | 101, _ => rfl
  | 102, _ => rfl
  | 103, _ => rfl
  | 104, _ => rfl
  | 105, _ => rfl
  | 106, _ => rfl
  | 107, _ => rfl
  | 108, _ => rfl
  | 109, _ => rfl
  | 110, _ => rfl
  | 111, _ => rfl
  | 112, _ => rfl
  | 113, _ => rfl
  | 114, _ => rfl
  | 115, _ => rfl
  | 116, _ => rfl
  | 117, _ => rfl
  | 118, _ => rfl
  | 119, _ => rfl
  | 120, _ => rfl
  | 121, _ => rfl
  | 122, _ => rfl
  | 123, _ => rfl
  | 124, _ => rfl
  | 125, _ => rfl
  | 126, _ => rfl
  | 127, _ => rfl
  | 128, _ => rfl
  | 129, _ => rfl
  | 130, _ => rfl
  | 131, _ => rfl
  | 132, _ => rfl
  | 133, _ => rfl
  | 134, _ => rfl
  | 135, _ => rfl
  | 136, _ => rfl
  | 137, _ => rfl
  | 138, _ => rfl
  | 139, _ => rfl
  | 140, _ => rfl
  | 141, _ => rfl
  | 142, _ => rfl
  | 143, _ => rfl
  | 144, _ => rfl
  | 145, _ => rfl
  | 146, _ => rfl
  | 147, _ => rfl
  | 148, _ => rfl
  | 149, _ => rfl
  | 150, _ => rfl
  | 151, _ => rfl
  | 152, _ => rfl
  | 153, _ => rfl
  | 154, _ => rfl
  | 155, _ => rfl
  | 156, _ => rfl
  | 157, _ => rfl
  | 158, _ => rfl
  | 159, _ => rfl
  | 160, _ => rfl
  | 161, _ => rfl
  | 162, _ => rfl
  | 163, _ => rfl
  | 164, _ => rfl
  | 165, _ => rfl
  | 166, _ => rfl
  | 167, _ => rfl
  | 168, _ => rfl
  | 169, _ => rfl
  | 170, _ => rfl
  | 171, _ => rfl
  | 172, _ => rfl
  | 173, _ => rfl
  | 174, _ => rfl
  | 175, _ => rfl
  | 176, _ => rfl
  | 177, _ => rfl
  | 178, _ => rfl
  | 179, _ => rfl
  | 180, _ => rfl
  | 181, _ => rfl
  | 182, _ => rfl
  | 183, _ => rfl
  | 184, _ => rfl
  | 185, _ => rfl
  | 186, _ => rfl
  | 187, _ => rfl
  | 188, _ => rfl
  | 189, _ => rfl
  | 190, _ => rfl
  | 191, _ => rfl
  | 192, _ => rfl
  | 193, _ => rfl
  | 194, _ => rfl
  | 195, _ => rfl
  | 196, _ => rfl
  | 197, _ => rfl
  | 198, _ => rfl
  | 199, _ => rfl
  | 200, _ => rfl
  | 201, _ => rfl
  | 202, _ => rfl
  | k + 203, h => absurd h (by omega)
set_option maxRecDepth 100000 in
set_option maxHeartbeats 4000000 in
/-- the heap after the objects are made -/
theorem x_start {l : Launch} {M : o_M} {d : Nat} {al : Nat → Prop} {post : o_P} {pc : Nat} {ls : List (Nat × Value)} {st : List Value} {mc ms : Nat} (k : o_V l M d al post pc ls st o_N (o_mem x_g0) mc ms) : o_V l M d al post pc ls st 203 (o_hL x_L0) mc ms := by
  refine o_hcq (b := 44) (t := 7) (N := 8) (f := x_rng 45 14 8) (f' := fun j => some (45 + 14 * j)) (h' := o_up (o_hL x_L0) 44 (.inl (7, 8, .inr (.inr (.inr (.inr (fun j => some (45 + 14 * j)))))))) rfl rfl (fun j hj => if_pos hj) (fun k _ hk => (if_neg hk).symm) ?_
  refine o_hcq (b := 165) (t := 6) (N := 12) (f := x_rng 166 2 12) (f' := fun j => some (166 + 2 * j)) (h' := x_h1) rfl rfl (fun j hj => if_pos hj) (fun k _ hk => (if_neg hk).symm) ?_
  exact o_hcg (fun k hk => x_h1_eq k hk) k
/-- the numbers at the start -/
def x_M0 : Nat → Nat → Int := fun _ _ => 0
def x_T0 : Nat → Nat → Int := fun a j => if a = 0 ∧ (j = 2 ∨ j = 3) then -1 else 0
theorem x_st0 {b : Nat} (hb : 1 ≤ b ∧ b + 14 ≤ 190) : o_stb x_g0 b x_M0 := by
  have e : ∀ a, b ≤ a → a < b + 14 → x_g0 a = fun _ => 0 := fun a h1 h2 => by
    funext j; unfold x_g0; rw [if_neg (by omega), if_neg (by omega), if_neg (by omega)]
  refine ⟨⟨by rw [e _ (by omega) (by omega)]; rfl, fun i hi => absurd hi (by show ¬ (i : Int) < 0; omega)⟩, ⟨by rw [e _ (by omega) (by omega)]; rfl, fun i hi => absurd hi (by show ¬ (i : Int) < 0; omega)⟩, ⟨by rw [e _ (by omega) (by omega)]; rfl, fun i hi => absurd hi (by show ¬ (i : Int) < 0; omega)⟩, by rw [e _ (by omega) (by omega)]; rfl, by rw [e _ (by omega) (by omega)]; rfl, by rw [e _ (by omega) (by omega)]; rfl, by rw [e _ (by omega) (by omega)]; rfl⟩
theorem x_xd0 : o_xd x_g0 x_M0 [] none x_T0 := by
  refine ⟨x_st0 (b := 1) (by omega), ⟨0, by decide, rfl, rfl, by decide, fun k M hk => by cases hk⟩, ⟨rfl, fun M' h => by cases h⟩, rfl, fun j hj => absurd hj (by show ¬ (j : Int) < 0; omega), ⟨[], ⟨rfl, ⟨16, rfl, by decide, by decide, fun j hj => by show (0 : Int) ≤ 0 ∧ (0 : Int) < 128; decide⟩, rfl, fun j hj => absurd hj (Nat.not_lt_zero j)⟩, rfl, fun j hj => absurd hj (Nat.not_lt_zero j)⟩, rfl, rfl, fun h => absurd h (by decide)⟩
theorem x_sr0 : o_sr (x_g0 193) x_M0 := by
  refine ⟨⟨rfl, rfl, rfl, rfl, rfl, rfl, rfl⟩, fun i hi => absurd hi (by show ¬ (i : Int) < 0; omega), fun i hi => absurd hi (by show ¬ (i : Int) < 0; omega), fun i hi => absurd hi (by show ¬ (i : Int) < 0; omega)⟩
theorem x_md0 : o_md x_g0 x_M0 [] none x_T0 := by
  refine ⟨x_sr0, ⟨rfl, by decide, fun k M hk => by cases hk⟩, ⟨rfl, fun M h => by cases h⟩, rfl, fun j hj => absurd hj (by show ¬ (j : Int) < 0; omega), rfl, fun j hj => absurd hj (by show ¬ (j : Int) < 0; omega), rfl, rfl, rfl⟩
theorem x_wf0 : o_wf x_M0 := by
  have n0 : ∀ i : Nat, ¬ (i : Int) < x_M0 0 0 := fun i => by show ¬ (i : Int) < 0; omega
  refine ⟨⟨⟨by decide, by decide, fun i hi => absurd hi (n0 i)⟩, ⟨by decide, by decide, by decide, by decide, fun i hi => absurd hi (n0 i)⟩, ⟨by decide, by decide, fun i hi => absurd hi (n0 i)⟩, ⟨by decide, by decide⟩, fun i hi => absurd hi (n0 i), fun i hi => absurd hi (n0 i), fun i _ hi => absurd hi (n0 i)⟩, by decide, rfl, fun i hi => absurd hi (n0 i)⟩
theorem x_tk0 : o_tk x_T0 := ⟨by decide, by decide, fun j hj => absurd hj (by show ¬ (j : Int) < 0; omega), by decide, by decide, by decide⟩
