/-! the shape of the heap: cell k holds the numbers g k; c: the capacity of the builder's array -/
def o_F : List ((Nat → Int) → Int → o_C) := [
  fun f c => .inr (0, [.ref 1, .ref 15, .ref 29, .int (o_I (f 3)), .ref 43, .ref 157, .ref 159, .ref 163, .ref 190, .int (o_I (f 9)), .int (o_I (f 10)), .int (o_I (f 11))]),
  fun f c => .inr (1, [.ref 2, .ref 6, .ref 12, .int (o_I (f 3)), .int (o_I (f 4)), .int (o_I (f 5)), .int (o_I (f 6))]),
  fun f c => .inr (2, [.int (o_I (f 0)), .ref 3, .ref 4, .ref 5]),
  fun f c => .inl (0, 6, .inl (fun j => o_I (f j))),
  fun f c => .inl (0, 6, .inl (fun j => o_I (f j))),
  fun f c => .inl (0, 6, .inl (fun j => o_I (f j))),
  fun f c => .inr (3, [.int (o_I (f 0)), .ref 7, .ref 8, .ref 9, .ref 10, .ref 11]),
  fun f c => .inl (0, 8, .inl (fun j => o_I (f j))),
  fun f c => .inl (0, 8, .inl (fun j => o_I (f j))),
  fun f c => .inl (0, 8, .inl (fun j => o_I (f j))),
  fun f c => .inl (0, 8, .inl (fun j => o_I (f j))),
  fun f c => .inl (1, 8, .inl (fun j => o_I (f j))),
  fun f c => .inr (4, [.int (o_I (f 0)), .ref 13, .ref 14]),
  fun f c => .inl (0, 8, .inl (fun j => o_I (f j))),
  fun f c => .inl (0, 8, .inl (fun j => o_I (f j))),
  fun f c => .inr (1, [.ref 16, .ref 20, .ref 26, .int (o_I (f 3)), .int (o_I (f 4)), .int (o_I (f 5)), .int (o_I (f 6))]),
  fun f c => .inr (2, [.int (o_I (f 0)), .ref 17, .ref 18, .ref 19]),
  fun f c => .inl (0, 6, .inl (fun j => o_I (f j))),
  fun f c => .inl (0, 6, .inl (fun j => o_I (f j))),
  fun f c => .inl (0, 6, .inl (fun j => o_I (f j))),
  fun f c => .inr (3, [.int (o_I (f 0)), .ref 21, .ref 22, .ref 23, .ref 24, .ref 25]),
  fun f c => .inl (0, 8, .inl (fun j => o_I (f j))),
  fun f c => .inl (0, 8, .inl (fun j => o_I (f j))),
  fun f c => .inl (0, 8, .inl (fun j => o_I (f j))),
  fun f c => .inl (0, 8, .inl (fun j => o_I (f j))),
  fun f c => .inl (1, 8, .inl (fun j => o_I (f j))),
  fun f c => .inr (4, [.int (o_I (f 0)), .ref 27, .ref 28]),
  fun f c => .inl (0, 8, .inl (fun j => o_I (f j))),
  fun f c => .inl (0, 8, .inl (fun j => o_I (f j))),
  fun f c => .inr (1, [.ref 30, .ref 34, .ref 40, .int (o_I (f 3)), .int (o_I (f 4)), .int (o_I (f 5)), .int (o_I (f 6))]),
  fun f c => .inr (2, [.int (o_I (f 0)), .ref 31, .ref 32, .ref 33]),
  fun f c => .inl (0, 6, .inl (fun j => o_I (f j))),
  fun f c => .inl (0, 6, .inl (fun j => o_I (f j))),
  fun f c => .inl (0, 6, .inl (fun j => o_I (f j))),
  fun f c => .inr (3, [.int (o_I (f 0)), .ref 35, .ref 36, .ref 37, .ref 38, .ref 39]),
  fun f c => .inl (0, 8, .inl (fun j => o_I (f j))),
  fun f c => .inl (0, 8, .inl (fun j => o_I (f j))),
  fun f c => .inl (0, 8, .inl (fun j => o_I (f j))),
  fun f c => .inl (0, 8, .inl (fun j => o_I (f j))),
  fun f c => .inl (1, 8, .inl (fun j => o_I (f j))),
  fun f c => .inr (4, [.int (o_I (f 0)), .ref 41, .ref 42]),
  fun f c => .inl (0, 8, .inl (fun j => o_I (f j))),
  fun f c => .inl (0, 8, .inl (fun j => o_I (f j))),
  fun f c => .inr (5, [.ref 44, .int (o_I (f 1)), .int (o_I (f 2))]),
  fun f c => .inl (7, 8, .inr (.inr (.inr (.inr (fun j => some (if j < 8 then 45 + 14 * j else 0)))))),
  fun f c => .inr (1, [.ref 46, .ref 50, .ref 56, .int (o_I (f 3)), .int (o_I (f 4)), .int (o_I (f 5)), .int (o_I (f 6))]),
  fun f c => .inr (2, [.int (o_I (f 0)), .ref 47, .ref 48, .ref 49]),
  fun f c => .inl (0, 6, .inl (fun j => o_I (f j))),
  fun f c => .inl (0, 6, .inl (fun j => o_I (f j))),
  fun f c => .inl (0, 6, .inl (fun j => o_I (f j))),
  fun f c => .inr (3, [.int (o_I (f 0)), .ref 51, .ref 52, .ref 53, .ref 54, .ref 55]),
  fun f c => .inl (0, 8, .inl (fun j => o_I (f j))),
  fun f c => .inl (0, 8, .inl (fun j => o_I (f j))),
  fun f c => .inl (0, 8, .inl (fun j => o_I (f j))),
  fun f c => .inl (0, 8, .inl (fun j => o_I (f j))),
  fun f c => .inl (1, 8, .inl (fun j => o_I (f j))),
  fun f c => .inr (4, [.int (o_I (f 0)), .ref 57, .ref 58]),
  fun f c => .inl (0, 8, .inl (fun j => o_I (f j))),
  fun f c => .inl (0, 8, .inl (fun j => o_I (f j))),
  fun f c => .inr (1, [.ref 60, .ref 64, .ref 70, .int (o_I (f 3)), .int (o_I (f 4)), .int (o_I (f 5)), .int (o_I (f 6))]),
  fun f c => .inr (2, [.int (o_I (f 0)), .ref 61, .ref 62, .ref 63]),
  fun f c => .inl (0, 6, .inl (fun j => o_I (f j))),
  fun f c => .inl (0, 6, .inl (fun j => o_I (f j))),
  fun f c => .inl (0, 6, .inl (fun j => o_I (f j))),
  fun f c => .inr (3, [.int (o_I (f 0)), .ref 65, .ref 66, .ref 67, .ref 68, .ref 69]),
  fun f c => .inl (0, 8, .inl (fun j => o_I (f j))),
  fun f c => .inl (0, 8, .inl (fun j => o_I (f j))),
  fun f c => .inl (0, 8, .inl (fun j => o_I (f j))),
  fun f c => .inl (0, 8, .inl (fun j => o_I (f j))),
  fun f c => .inl (1, 8, .inl (fun j => o_I (f j))),
  fun f c => .inr (4, [.int (o_I (f 0)), .ref 71, .ref 72]),
  fun f c => .inl (0, 8, .inl (fun j => o_I (f j))),
  fun f c => .inl (0, 8, .inl (fun j => o_I (f j))),
  fun f c => .inr (1, [.ref 74, .ref 78, .ref 84, .int (o_I (f 3)), .int (o_I (f 4)), .int (o_I (f 5)), .int (o_I (f 6))]),
  fun f c => .inr (2, [.int (o_I (f 0)), .ref 75, .ref 76, .ref 77]),
  fun f c => .inl (0, 6, .inl (fun j => o_I (f j))),
  fun f c => .inl (0, 6, .inl (fun j => o_I (f j))),
  fun f c => .inl (0, 6, .inl (fun j => o_I (f j))),
  fun f c => .inr (3, [.int (o_I (f 0)), .ref 79, .ref 80, .ref 81, .ref 82, .ref 83]),
  fun f c => .inl (0, 8, .inl (fun j => o_I (f j))),
  fun f c => .inl (0, 8, .inl (fun j => o_I (f j))),
  fun f c => .inl (0, 8, .inl (fun j => o_I (f j))),
  fun f c => .inl (0, 8, .inl (fun j => o_I (f j))),
  fun f c => .inl (1, 8, .inl (fun j => o_I (f j))),
  fun f c => .inr (4, [.int (o_I (f 0)), .ref 85, .ref 86]),
  fun f c => .inl (0, 8, .inl (fun j => o_I (f j))),
  fun f c => .inl (0, 8, .inl (fun j => o_I (f j))),
  fun f c => .inr (1, [.ref 88, .ref 92, .ref 98, .int (o_I (f 3)), .int (o_I (f 4)), .int (o_I (f 5)), .int (o_I (f 6))]),
  fun f c => .inr (2, [.int (o_I (f 0)), .ref 89, .ref 90, .ref 91]),
  fun f c => .inl (0, 6, .inl (fun j => o_I (f j))),
  fun f c => .inl (0, 6, .inl (fun j => o_I (f j))),
  fun f c => .inl (0, 6, .inl (fun j => o_I (f j))),
  fun f c => .inr (3, [.int (o_I (f 0)), .ref 93, .ref 94, .ref 95, .ref 96, .ref 97]),
  fun f c => .inl (0, 8, .inl (fun j => o_I (f j))),
  fun f c => .inl (0, 8, .inl (fun j => o_I (f j))),
  fun f c => .inl (0, 8, .inl (fun j => o_I (f j))),
  fun f c => .inl (0, 8, .inl (fun j => o_I (f j))),
  fun f c => .inl (1, 8, .inl (fun j => o_I (f j))),
  fun f c => .inr (4, [.int (o_I (f 0)), .ref 99, .ref 100]),
  fun f c => .inl (0, 8, .inl (fun j => o_I (f j))),
  fun f c => .inl (0, 8, .inl (fun j => o_I (f j))),
  fun f c => .inr (1, [.ref 102, .ref 106, .ref 112, .int (o_I (f 3)), .int (o_I (f 4)), .int (o_I (f 5)), .int (o_I (f 6))]),
  fun f c => .inr (2, [.int (o_I (f 0)), .ref 103, .ref 104, .ref 105]),
  fun f c => .inl (0, 6, .inl (fun j => o_I (f j))),
  fun f c => .inl (0, 6, .inl (fun j => o_I (f j))),
  fun f c => .inl (0, 6, .inl (fun j => o_I (f j))),
  fun f c => .inr (3, [.int (o_I (f 0)), .ref 107, .ref 108, .ref 109, .ref 110, .ref 111]),
  fun f c => .inl (0, 8, .inl (fun j => o_I (f j))),
  fun f c => .inl (0, 8, .inl (fun j => o_I (f j))),
  fun f c => .inl (0, 8, .inl (fun j => o_I (f j))),
  fun f c => .inl (0, 8, .inl (fun j => o_I (f j))),
  fun f c => .inl (1, 8, .inl (fun j => o_I (f j))),
  fun f c => .inr (4, [.int (o_I (f 0)), .ref 113, .ref 114]),
  fun f c => .inl (0, 8, .inl (fun j => o_I (f j))),
  fun f c => .inl (0, 8, .inl (fun j => o_I (f j))),
  fun f c => .inr (1, [.ref 116, .ref 120, .ref 126, .int (o_I (f 3)), .int (o_I (f 4)), .int (o_I (f 5)), .int (o_I (f 6))]),
  fun f c => .inr (2, [.int (o_I (f 0)), .ref 117, .ref 118, .ref 119]),
  fun f c => .inl (0, 6, .inl (fun j => o_I (f j))),
  fun f c => .inl (0, 6, .inl (fun j => o_I (f j))),
  fun f c => .inl (0, 6, .inl (fun j => o_I (f j))),
  fun f c => .inr (3, [.int (o_I (f 0)), .ref 121, .ref 122, .ref 123, .ref 124, .ref 125]),
  fun f c => .inl (0, 8, .inl (fun j => o_I (f j))),
  fun f c => .inl (0, 8, .inl (fun j => o_I (f j))),
  fun f c => .inl (0, 8, .inl (fun j => o_I (f j))),
  fun f c => .inl (0, 8, .inl (fun j => o_I (f j))),
  fun f c => .inl (1, 8, .inl (fun j => o_I (f j))),
  fun f c => .inr (4, [.int (o_I (f 0)), .ref 127, .ref 128]),
  fun f c => .inl (0, 8, .inl (fun j => o_I (f j))),
  fun f c => .inl (0, 8, .inl (fun j => o_I (f j))),
  fun f c => .inr (1, [.ref 130, .ref 134, .ref 140, .int (o_I (f 3)), .int (o_I (f 4)), .int (o_I (f 5)), .int (o_I (f 6))]),
  fun f c => .inr (2, [.int (o_I (f 0)), .ref 131, .ref 132, .ref 133]),
  fun f c => .inl (0, 6, .inl (fun j => o_I (f j))),
  fun f c => .inl (0, 6, .inl (fun j => o_I (f j))),
  fun f c => .inl (0, 6, .inl (fun j => o_I (f j))),
  fun f c => .inr (3, [.int (o_I (f 0)), .ref 135, .ref 136, .ref 137, .ref 138, .ref 139]),
  fun f c => .inl (0, 8, .inl (fun j => o_I (f j))),
  fun f c => .inl (0, 8, .inl (fun j => o_I (f j))),
  fun f c => .inl (0, 8, .inl (fun j => o_I (f j))),
  fun f c => .inl (0, 8, .inl (fun j => o_I (f j))),
  fun f c => .inl (1, 8, .inl (fun j => o_I (f j))),
  fun f c => .inr (4, [.int (o_I (f 0)), .ref 141, .ref 142]),
  fun f c => .inl (0, 8, .inl (fun j => o_I (f j))),
  fun f c => .inl (0, 8, .inl (fun j => o_I (f j))),
  fun f c => .inr (1, [.ref 144, .ref 148, .ref 154, .int (o_I (f 3)), .int (o_I (f 4)), .int (o_I (f 5)), .int (o_I (f 6))]),
  fun f c => .inr (2, [.int (o_I (f 0)), .ref 145, .ref 146, .ref 147]),
  fun f c => .inl (0, 6, .inl (fun j => o_I (f j))),
  fun f c => .inl (0, 6, .inl (fun j => o_I (f j))),
  fun f c => .inl (0, 6, .inl (fun j => o_I (f j))),
  fun f c => .inr (3, [.int (o_I (f 0)), .ref 149, .ref 150, .ref 151, .ref 152, .ref 153]),
  fun f c => .inl (0, 8, .inl (fun j => o_I (f j))),
  fun f c => .inl (0, 8, .inl (fun j => o_I (f j))),
  fun f c => .inl (0, 8, .inl (fun j => o_I (f j))),
  fun f c => .inl (0, 8, .inl (fun j => o_I (f j))),
  fun f c => .inl (1, 8, .inl (fun j => o_I (f j))),
  fun f c => .inr (4, [.int (o_I (f 0)), .ref 155, .ref 156]),
  fun f c => .inl (0, 8, .inl (fun j => o_I (f j))),
  fun f c => .inl (0, 8, .inl (fun j => o_I (f j))),
  fun f c => .inr (6, [.ref 158]),
  fun f c => .inl (0, 25, .inl (fun j => o_I (f j))),
  fun f c => .inr (7, [.ref 160, .ref 161, .ref 162, .int (o_I (f 3))]),
  fun f c => .inl (0, 6, .inl (fun j => o_I (f j))),
  fun f c => .inl (0, 6, .inl (fun j => o_I (f j))),
  fun f c => .inl (1, 6, .inl (fun j => o_I (f j))),
  fun f c => .inr (8, [.ref 164, .ref 165, .int (o_I (f 2)), .int (o_I (f 3)), .int (o_I (f 4))]),
  fun f c => .inl (2, 60, .inl (fun j => o_I (f j))),
  fun f c => .inl (6, 12, .inr (.inr (.inr (.inr (fun j => some (if j < 12 then 166 + 2 * j else 0)))))),
  fun f c => .inr (9, [.ref (1000000 + (f 0).toNat), .ref 167]),
  fun f c => .inl (0, 3, .inl (fun j => o_I (f j))),
  fun f c => .inr (9, [.ref (1000000 + (f 0).toNat), .ref 169]),
  fun f c => .inl (0, 3, .inl (fun j => o_I (f j))),
  fun f c => .inr (9, [.ref (1000000 + (f 0).toNat), .ref 171]),
  fun f c => .inl (0, 3, .inl (fun j => o_I (f j))),
  fun f c => .inr (9, [.ref (1000000 + (f 0).toNat), .ref 173]),
  fun f c => .inl (0, 3, .inl (fun j => o_I (f j))),
  fun f c => .inr (9, [.ref (1000000 + (f 0).toNat), .ref 175]),
  fun f c => .inl (0, 3, .inl (fun j => o_I (f j))),
  fun f c => .inr (9, [.ref (1000000 + (f 0).toNat), .ref 177]),
  fun f c => .inl (0, 3, .inl (fun j => o_I (f j))),
  fun f c => .inr (9, [.ref (1000000 + (f 0).toNat), .ref 179]),
  fun f c => .inl (0, 3, .inl (fun j => o_I (f j))),
  fun f c => .inr (9, [.ref (1000000 + (f 0).toNat), .ref 181]),
  fun f c => .inl (0, 3, .inl (fun j => o_I (f j))),
  fun f c => .inr (9, [.ref (1000000 + (f 0).toNat), .ref 183]),
  fun f c => .inl (0, 3, .inl (fun j => o_I (f j))),
  fun f c => .inr (9, [.ref (1000000 + (f 0).toNat), .ref 185]),
  fun f c => .inl (0, 3, .inl (fun j => o_I (f j))),
  fun f c => .inr (9, [.ref (1000000 + (f 0).toNat), .ref 187]),
  fun f c => .inl (0, 3, .inl (fun j => o_I (f j))),
  fun f c => .inr (9, [.ref (1000000 + (f 0).toNat), .ref 189]),
  fun f c => .inl (0, 3, .inl (fun j => o_I (f j))),
  fun f c => .inr (11, [.ref 191, .int (o_I (f 1)), .int (o_I (f 2)), .int (o_I (f 3))]),
  fun f c => .inl (3, c.toNat, .inl (fun j => o_I (f j)))]
def o_mem (g : Nat → Nat → Int) (k : Nat) : o_C := (o_F.getD k (fun _ _ => .inr (0, []))) (g k) (g 190 9)
abbrev o_N : Nat := 192
def o_w (g : Nat → Nat → Int) (k : Nat) (f : Nat → Int) : Nat → Nat → Int := fun a => if a = k then f else g a
theorem o_w_s (g : Nat → Nat → Int) (k : Nat) (f : Nat → Int) : o_w g k f k = f := by simp [o_w]
theorem o_w_n (g : Nat → Nat → Int) {k j : Nat} (f : Nat → Int) (h : j ≠ k) : o_w g k f j = g j := by simp [o_w, h]
theorem o_w_w (g : Nat → Nat → Int) (k : Nat) (f f' : Nat → Int) : o_w (o_w g k f) k f' = o_w g k f' := by
  funext j
  unfold o_w
  split <;> rfl
theorem o_w_id (g : Nat → Nat → Int) (k : Nat) : o_w g k (g k) = g := by
  funext j
  unfold o_w
  split
  · next e => rw [e]
  · rfl
/-- a store, in the shape -/
theorem o_mw {g : Nat → Nat → Int} {k : Nat} {f : Nat → Int} {c : o_C} (hc : c = (o_F.getD k (fun _ _ => .inr (0, []))) f (g 190 9)) (h9 : (o_w g k f) 190 9 = g 190 9) : o_up (o_mem g) k c = o_mem (o_w g k f) := by
  funext j
  unfold o_up o_mem
  rw [h9]
  by_cases e : j = k
  · subst e
    rw [if_pos rfl, o_w_s]
    exact hc
  · rw [if_neg e, o_w_n g f e]
theorem o_m0 (g : Nat → Nat → Int) : o_mem g 0 = .inr (0, [.ref 1, .ref 15, .ref 29, .int (o_I (g 0 3)), .ref 43, .ref 157, .ref 159, .ref 163, .ref 190, .int (o_I (g 0 9)), .int (o_I (g 0 10)), .int (o_I (g 0 11))]) := rfl
theorem o_m1 (g : Nat → Nat → Int) : o_mem g 1 = .inr (1, [.ref 2, .ref 6, .ref 12, .int (o_I (g 1 3)), .int (o_I (g 1 4)), .int (o_I (g 1 5)), .int (o_I (g 1 6))]) := rfl
theorem o_m2 (g : Nat → Nat → Int) : o_mem g 2 = .inr (2, [.int (o_I (g 2 0)), .ref 3, .ref 4, .ref 5]) := rfl
theorem o_m3 (g : Nat → Nat → Int) : o_mem g 3 = .inl (0, 6, .inl (fun j => o_I (g 3 j))) := rfl
theorem o_m4 (g : Nat → Nat → Int) : o_mem g 4 = .inl (0, 6, .inl (fun j => o_I (g 4 j))) := rfl
theorem o_m5 (g : Nat → Nat → Int) : o_mem g 5 = .inl (0, 6, .inl (fun j => o_I (g 5 j))) := rfl
theorem o_m6 (g : Nat → Nat → Int) : o_mem g 6 = .inr (3, [.int (o_I (g 6 0)), .ref 7, .ref 8, .ref 9, .ref 10, .ref 11]) := rfl
theorem o_m7 (g : Nat → Nat → Int) : o_mem g 7 = .inl (0, 8, .inl (fun j => o_I (g 7 j))) := rfl
theorem o_m8 (g : Nat → Nat → Int) : o_mem g 8 = .inl (0, 8, .inl (fun j => o_I (g 8 j))) := rfl
theorem o_m9 (g : Nat → Nat → Int) : o_mem g 9 = .inl (0, 8, .inl (fun j => o_I (g 9 j))) := rfl
theorem o_m10 (g : Nat → Nat → Int) : o_mem g 10 = .inl (0, 8, .inl (fun j => o_I (g 10 j))) := rfl
theorem o_m11 (g : Nat → Nat → Int) : o_mem g 11 = .inl (1, 8, .inl (fun j => o_I (g 11 j))) := rfl
theorem o_m12 (g : Nat → Nat → Int) : o_mem g 12 = .inr (4, [.int (o_I (g 12 0)), .ref 13, .ref 14]) := rfl
theorem o_m13 (g : Nat → Nat → Int) : o_mem g 13 = .inl (0, 8, .inl (fun j => o_I (g 13 j))) := rfl
theorem o_m14 (g : Nat → Nat → Int) : o_mem g 14 = .inl (0, 8, .inl (fun j => o_I (g 14 j))) := rfl
theorem o_m15 (g : Nat → Nat → Int) : o_mem g 15 = .inr (1, [.ref 16, .ref 20, .ref 26, .int (o_I (g 15 3)), .int (o_I (g 15 4)), .int (o_I (g 15 5)), .int (o_I (g 15 6))]) := rfl
theorem o_m16 (g : Nat → Nat → Int) : o_mem g 16 = .inr (2, [.int (o_I (g 16 0)), .ref 17, .ref 18, .ref 19]) := rfl
theorem o_m17 (g : Nat → Nat → Int) : o_mem g 17 = .inl (0, 6, .inl (fun j => o_I (g 17 j))) := rfl
theorem o_m18 (g : Nat → Nat → Int) : o_mem g 18 = .inl (0, 6, .inl (fun j => o_I (g 18 j))) := rfl
theorem o_m19 (g : Nat → Nat → Int) : o_mem g 19 = .inl (0, 6, .inl (fun j => o_I (g 19 j))) := rfl
theorem o_m20 (g : Nat → Nat → Int) : o_mem g 20 = .inr (3, [.int (o_I (g 20 0)), .ref 21, .ref 22, .ref 23, .ref 24, .ref 25]) := rfl
theorem o_m21 (g : Nat → Nat → Int) : o_mem g 21 = .inl (0, 8, .inl (fun j => o_I (g 21 j))) := rfl
theorem o_m22 (g : Nat → Nat → Int) : o_mem g 22 = .inl (0, 8, .inl (fun j => o_I (g 22 j))) := rfl
theorem o_m23 (g : Nat → Nat → Int) : o_mem g 23 = .inl (0, 8, .inl (fun j => o_I (g 23 j))) := rfl
theorem o_m24 (g : Nat → Nat → Int) : o_mem g 24 = .inl (0, 8, .inl (fun j => o_I (g 24 j))) := rfl
theorem o_m25 (g : Nat → Nat → Int) : o_mem g 25 = .inl (1, 8, .inl (fun j => o_I (g 25 j))) := rfl
theorem o_m26 (g : Nat → Nat → Int) : o_mem g 26 = .inr (4, [.int (o_I (g 26 0)), .ref 27, .ref 28]) := rfl
theorem o_m27 (g : Nat → Nat → Int) : o_mem g 27 = .inl (0, 8, .inl (fun j => o_I (g 27 j))) := rfl
theorem o_m28 (g : Nat → Nat → Int) : o_mem g 28 = .inl (0, 8, .inl (fun j => o_I (g 28 j))) := rfl
theorem o_m29 (g : Nat → Nat → Int) : o_mem g 29 = .inr (1, [.ref 30, .ref 34, .ref 40, .int (o_I (g 29 3)), .int (o_I (g 29 4)), .int (o_I (g 29 5)), .int (o_I (g 29 6))]) := rfl
theorem o_m30 (g : Nat → Nat → Int) : o_mem g 30 = .inr (2, [.int (o_I (g 30 0)), .ref 31, .ref 32, .ref 33]) := rfl
theorem o_m31 (g : Nat → Nat → Int) : o_mem g 31 = .inl (0, 6, .inl (fun j => o_I (g 31 j))) := rfl
theorem o_m32 (g : Nat → Nat → Int) : o_mem g 32 = .inl (0, 6, .inl (fun j => o_I (g 32 j))) := rfl
theorem o_m33 (g : Nat → Nat → Int) : o_mem g 33 = .inl (0, 6, .inl (fun j => o_I (g 33 j))) := rfl
theorem o_m34 (g : Nat → Nat → Int) : o_mem g 34 = .inr (3, [.int (o_I (g 34 0)), .ref 35, .ref 36, .ref 37, .ref 38, .ref 39]) := rfl
theorem o_m35 (g : Nat → Nat → Int) : o_mem g 35 = .inl (0, 8, .inl (fun j => o_I (g 35 j))) := rfl
theorem o_m36 (g : Nat → Nat → Int) : o_mem g 36 = .inl (0, 8, .inl (fun j => o_I (g 36 j))) := rfl
theorem o_m37 (g : Nat → Nat → Int) : o_mem g 37 = .inl (0, 8, .inl (fun j => o_I (g 37 j))) := rfl
theorem o_m38 (g : Nat → Nat → Int) : o_mem g 38 = .inl (0, 8, .inl (fun j => o_I (g 38 j))) := rfl
theorem o_m39 (g : Nat → Nat → Int) : o_mem g 39 = .inl (1, 8, .inl (fun j => o_I (g 39 j))) := rfl
theorem o_m40 (g : Nat → Nat → Int) : o_mem g 40 = .inr (4, [.int (o_I (g 40 0)), .ref 41, .ref 42]) := rfl
theorem o_m41 (g : Nat → Nat → Int) : o_mem g 41 = .inl (0, 8, .inl (fun j => o_I (g 41 j))) := rfl
theorem o_m42 (g : Nat → Nat → Int) : o_mem g 42 = .inl (0, 8, .inl (fun j => o_I (g 42 j))) := rfl
theorem o_m43 (g : Nat → Nat → Int) : o_mem g 43 = .inr (5, [.ref 44, .int (o_I (g 43 1)), .int (o_I (g 43 2))]) := rfl
theorem o_m44 (g : Nat → Nat → Int) : o_mem g 44 = .inl (7, 8, .inr (.inr (.inr (.inr (fun j => some (if j < 8 then 45 + 14 * j else 0)))))) := rfl
theorem o_m45 (g : Nat → Nat → Int) : o_mem g 45 = .inr (1, [.ref 46, .ref 50, .ref 56, .int (o_I (g 45 3)), .int (o_I (g 45 4)), .int (o_I (g 45 5)), .int (o_I (g 45 6))]) := rfl
theorem o_m46 (g : Nat → Nat → Int) : o_mem g 46 = .inr (2, [.int (o_I (g 46 0)), .ref 47, .ref 48, .ref 49]) := rfl
theorem o_m47 (g : Nat → Nat → Int) : o_mem g 47 = .inl (0, 6, .inl (fun j => o_I (g 47 j))) := rfl
theorem o_m48 (g : Nat → Nat → Int) : o_mem g 48 = .inl (0, 6, .inl (fun j => o_I (g 48 j))) := rfl
theorem o_m49 (g : Nat → Nat → Int) : o_mem g 49 = .inl (0, 6, .inl (fun j => o_I (g 49 j))) := rfl
theorem o_m50 (g : Nat → Nat → Int) : o_mem g 50 = .inr (3, [.int (o_I (g 50 0)), .ref 51, .ref 52, .ref 53, .ref 54, .ref 55]) := rfl
theorem o_m51 (g : Nat → Nat → Int) : o_mem g 51 = .inl (0, 8, .inl (fun j => o_I (g 51 j))) := rfl
theorem o_m52 (g : Nat → Nat → Int) : o_mem g 52 = .inl (0, 8, .inl (fun j => o_I (g 52 j))) := rfl
theorem o_m53 (g : Nat → Nat → Int) : o_mem g 53 = .inl (0, 8, .inl (fun j => o_I (g 53 j))) := rfl
theorem o_m54 (g : Nat → Nat → Int) : o_mem g 54 = .inl (0, 8, .inl (fun j => o_I (g 54 j))) := rfl
theorem o_m55 (g : Nat → Nat → Int) : o_mem g 55 = .inl (1, 8, .inl (fun j => o_I (g 55 j))) := rfl
theorem o_m56 (g : Nat → Nat → Int) : o_mem g 56 = .inr (4, [.int (o_I (g 56 0)), .ref 57, .ref 58]) := rfl
theorem o_m57 (g : Nat → Nat → Int) : o_mem g 57 = .inl (0, 8, .inl (fun j => o_I (g 57 j))) := rfl
theorem o_m58 (g : Nat → Nat → Int) : o_mem g 58 = .inl (0, 8, .inl (fun j => o_I (g 58 j))) := rfl
theorem o_m59 (g : Nat → Nat → Int) : o_mem g 59 = .inr (1, [.ref 60, .ref 64, .ref 70, .int (o_I (g 59 3)), .int (o_I (g 59 4)), .int (o_I (g 59 5)), .int (o_I (g 59 6))]) := rfl
theorem o_m60 (g : Nat → Nat → Int) : o_mem g 60 = .inr (2, [.int (o_I (g 60 0)), .ref 61, .ref 62, .ref 63]) := rfl
theorem o_m61 (g : Nat → Nat → Int) : o_mem g 61 = .inl (0, 6, .inl (fun j => o_I (g 61 j))) := rfl
theorem o_m62 (g : Nat → Nat → Int) : o_mem g 62 = .inl (0, 6, .inl (fun j => o_I (g 62 j))) := rfl
theorem o_m63 (g : Nat → Nat → Int) : o_mem g 63 = .inl (0, 6, .inl (fun j => o_I (g 63 j))) := rfl
theorem o_m64 (g : Nat → Nat → Int) : o_mem g 64 = .inr (3, [.int (o_I (g 64 0)), .ref 65, .ref 66, .ref 67, .ref 68, .ref 69]) := rfl
theorem o_m65 (g : Nat → Nat → Int) : o_mem g 65 = .inl (0, 8, .inl (fun j => o_I (g 65 j))) := rfl
theorem o_m66 (g : Nat → Nat → Int) : o_mem g 66 = .inl (0, 8, .inl (fun j => o_I (g 66 j))) := rfl
theorem o_m67 (g : Nat → Nat → Int) : o_mem g 67 = .inl (0, 8, .inl (fun j => o_I (g 67 j))) := rfl
theorem o_m68 (g : Nat → Nat → Int) : o_mem g 68 = .inl (0, 8, .inl (fun j => o_I (g 68 j))) := rfl
theorem o_m69 (g : Nat → Nat → Int) : o_mem g 69 = .inl (1, 8, .inl (fun j => o_I (g 69 j))) := rfl
theorem o_m70 (g : Nat → Nat → Int) : o_mem g 70 = .inr (4, [.int (o_I (g 70 0)), .ref 71, .ref 72]) := rfl
theorem o_m71 (g : Nat → Nat → Int) : o_mem g 71 = .inl (0, 8, .inl (fun j => o_I (g 71 j))) := rfl
theorem o_m72 (g : Nat → Nat → Int) : o_mem g 72 = .inl (0, 8, .inl (fun j => o_I (g 72 j))) := rfl
theorem o_m73 (g : Nat → Nat → Int) : o_mem g 73 = .inr (1, [.ref 74, .ref 78, .ref 84, .int (o_I (g 73 3)), .int (o_I (g 73 4)), .int (o_I (g 73 5)), .int (o_I (g 73 6))]) := rfl
theorem o_m74 (g : Nat → Nat → Int) : o_mem g 74 = .inr (2, [.int (o_I (g 74 0)), .ref 75, .ref 76, .ref 77]) := rfl
theorem o_m75 (g : Nat → Nat → Int) : o_mem g 75 = .inl (0, 6, .inl (fun j => o_I (g 75 j))) := rfl
theorem o_m76 (g : Nat → Nat → Int) : o_mem g 76 = .inl (0, 6, .inl (fun j => o_I (g 76 j))) := rfl
theorem o_m77 (g : Nat → Nat → Int) : o_mem g 77 = .inl (0, 6, .inl (fun j => o_I (g 77 j))) := rfl
theorem o_m78 (g : Nat → Nat → Int) : o_mem g 78 = .inr (3, [.int (o_I (g 78 0)), .ref 79, .ref 80, .ref 81, .ref 82, .ref 83]) := rfl
theorem o_m79 (g : Nat → Nat → Int) : o_mem g 79 = .inl (0, 8, .inl (fun j => o_I (g 79 j))) := rfl
theorem o_m80 (g : Nat → Nat → Int) : o_mem g 80 = .inl (0, 8, .inl (fun j => o_I (g 80 j))) := rfl
theorem o_m81 (g : Nat → Nat → Int) : o_mem g 81 = .inl (0, 8, .inl (fun j => o_I (g 81 j))) := rfl
theorem o_m82 (g : Nat → Nat → Int) : o_mem g 82 = .inl (0, 8, .inl (fun j => o_I (g 82 j))) := rfl
theorem o_m83 (g : Nat → Nat → Int) : o_mem g 83 = .inl (1, 8, .inl (fun j => o_I (g 83 j))) := rfl
theorem o_m84 (g : Nat → Nat → Int) : o_mem g 84 = .inr (4, [.int (o_I (g 84 0)), .ref 85, .ref 86]) := rfl
theorem o_m85 (g : Nat → Nat → Int) : o_mem g 85 = .inl (0, 8, .inl (fun j => o_I (g 85 j))) := rfl
theorem o_m86 (g : Nat → Nat → Int) : o_mem g 86 = .inl (0, 8, .inl (fun j => o_I (g 86 j))) := rfl
theorem o_m87 (g : Nat → Nat → Int) : o_mem g 87 = .inr (1, [.ref 88, .ref 92, .ref 98, .int (o_I (g 87 3)), .int (o_I (g 87 4)), .int (o_I (g 87 5)), .int (o_I (g 87 6))]) := rfl
theorem o_m88 (g : Nat → Nat → Int) : o_mem g 88 = .inr (2, [.int (o_I (g 88 0)), .ref 89, .ref 90, .ref 91]) := rfl
theorem o_m89 (g : Nat → Nat → Int) : o_mem g 89 = .inl (0, 6, .inl (fun j => o_I (g 89 j))) := rfl
theorem o_m90 (g : Nat → Nat → Int) : o_mem g 90 = .inl (0, 6, .inl (fun j => o_I (g 90 j))) := rfl
theorem o_m91 (g : Nat → Nat → Int) : o_mem g 91 = .inl (0, 6, .inl (fun j => o_I (g 91 j))) := rfl
theorem o_m92 (g : Nat → Nat → Int) : o_mem g 92 = .inr (3, [.int (o_I (g 92 0)), .ref 93, .ref 94, .ref 95, .ref 96, .ref 97]) := rfl
theorem o_m93 (g : Nat → Nat → Int) : o_mem g 93 = .inl (0, 8, .inl (fun j => o_I (g 93 j))) := rfl
theorem o_m94 (g : Nat → Nat → Int) : o_mem g 94 = .inl (0, 8, .inl (fun j => o_I (g 94 j))) := rfl
theorem o_m95 (g : Nat → Nat → Int) : o_mem g 95 = .inl (0, 8, .inl (fun j => o_I (g 95 j))) := rfl
theorem o_m96 (g : Nat → Nat → Int) : o_mem g 96 = .inl (0, 8, .inl (fun j => o_I (g 96 j))) := rfl
theorem o_m97 (g : Nat → Nat → Int) : o_mem g 97 = .inl (1, 8, .inl (fun j => o_I (g 97 j))) := rfl
theorem o_m98 (g : Nat → Nat → Int) : o_mem g 98 = .inr (4, [.int (o_I (g 98 0)), .ref 99, .ref 100]) := rfl
theorem o_m99 (g : Nat → Nat → Int) : o_mem g 99 = .inl (0, 8, .inl (fun j => o_I (g 99 j))) := rfl
theorem o_m100 (g : Nat → Nat → Int) : o_mem g 100 = .inl (0, 8, .inl (fun j => o_I (g 100 j))) := rfl
theorem o_m101 (g : Nat → Nat → Int) : o_mem g 101 = .inr (1, [.ref 102, .ref 106, .ref 112, .int (o_I (g 101 3)), .int (o_I (g 101 4)), .int (o_I (g 101 5)), .int (o_I (g 101 6))]) := rfl
theorem o_m102 (g : Nat → Nat → Int) : o_mem g 102 = .inr (2, [.int (o_I (g 102 0)), .ref 103, .ref 104, .ref 105]) := rfl
theorem o_m103 (g : Nat → Nat → Int) : o_mem g 103 = .inl (0, 6, .inl (fun j => o_I (g 103 j))) := rfl
theorem o_m104 (g : Nat → Nat → Int) : o_mem g 104 = .inl (0, 6, .inl (fun j => o_I (g 104 j))) := rfl
theorem o_m105 (g : Nat → Nat → Int) : o_mem g 105 = .inl (0, 6, .inl (fun j => o_I (g 105 j))) := rfl
theorem o_m106 (g : Nat → Nat → Int) : o_mem g 106 = .inr (3, [.int (o_I (g 106 0)), .ref 107, .ref 108, .ref 109, .ref 110, .ref 111]) := rfl
theorem o_m107 (g : Nat → Nat → Int) : o_mem g 107 = .inl (0, 8, .inl (fun j => o_I (g 107 j))) := rfl
theorem o_m108 (g : Nat → Nat → Int) : o_mem g 108 = .inl (0, 8, .inl (fun j => o_I (g 108 j))) := rfl
theorem o_m109 (g : Nat → Nat → Int) : o_mem g 109 = .inl (0, 8, .inl (fun j => o_I (g 109 j))) := rfl
theorem o_m110 (g : Nat → Nat → Int) : o_mem g 110 = .inl (0, 8, .inl (fun j => o_I (g 110 j))) := rfl
theorem o_m111 (g : Nat → Nat → Int) : o_mem g 111 = .inl (1, 8, .inl (fun j => o_I (g 111 j))) := rfl
theorem o_m112 (g : Nat → Nat → Int) : o_mem g 112 = .inr (4, [.int (o_I (g 112 0)), .ref 113, .ref 114]) := rfl
theorem o_m113 (g : Nat → Nat → Int) : o_mem g 113 = .inl (0, 8, .inl (fun j => o_I (g 113 j))) := rfl
theorem o_m114 (g : Nat → Nat → Int) : o_mem g 114 = .inl (0, 8, .inl (fun j => o_I (g 114 j))) := rfl
theorem o_m115 (g : Nat → Nat → Int) : o_mem g 115 = .inr (1, [.ref 116, .ref 120, .ref 126, .int (o_I (g 115 3)), .int (o_I (g 115 4)), .int (o_I (g 115 5)), .int (o_I (g 115 6))]) := rfl
theorem o_m116 (g : Nat → Nat → Int) : o_mem g 116 = .inr (2, [.int (o_I (g 116 0)), .ref 117, .ref 118, .ref 119]) := rfl
theorem o_m117 (g : Nat → Nat → Int) : o_mem g 117 = .inl (0, 6, .inl (fun j => o_I (g 117 j))) := rfl
theorem o_m118 (g : Nat → Nat → Int) : o_mem g 118 = .inl (0, 6, .inl (fun j => o_I (g 118 j))) := rfl
theorem o_m119 (g : Nat → Nat → Int) : o_mem g 119 = .inl (0, 6, .inl (fun j => o_I (g 119 j))) := rfl
theorem o_m120 (g : Nat → Nat → Int) : o_mem g 120 = .inr (3, [.int (o_I (g 120 0)), .ref 121, .ref 122, .ref 123, .ref 124, .ref 125]) := rfl
theorem o_m121 (g : Nat → Nat → Int) : o_mem g 121 = .inl (0, 8, .inl (fun j => o_I (g 121 j))) := rfl
theorem o_m122 (g : Nat → Nat → Int) : o_mem g 122 = .inl (0, 8, .inl (fun j => o_I (g 122 j))) := rfl
theorem o_m123 (g : Nat → Nat → Int) : o_mem g 123 = .inl (0, 8, .inl (fun j => o_I (g 123 j))) := rfl
theorem o_m124 (g : Nat → Nat → Int) : o_mem g 124 = .inl (0, 8, .inl (fun j => o_I (g 124 j))) := rfl
theorem o_m125 (g : Nat → Nat → Int) : o_mem g 125 = .inl (1, 8, .inl (fun j => o_I (g 125 j))) := rfl
theorem o_m126 (g : Nat → Nat → Int) : o_mem g 126 = .inr (4, [.int (o_I (g 126 0)), .ref 127, .ref 128]) := rfl
theorem o_m127 (g : Nat → Nat → Int) : o_mem g 127 = .inl (0, 8, .inl (fun j => o_I (g 127 j))) := rfl
theorem o_m128 (g : Nat → Nat → Int) : o_mem g 128 = .inl (0, 8, .inl (fun j => o_I (g 128 j))) := rfl
theorem o_m129 (g : Nat → Nat → Int) : o_mem g 129 = .inr (1, [.ref 130, .ref 134, .ref 140, .int (o_I (g 129 3)), .int (o_I (g 129 4)), .int (o_I (g 129 5)), .int (o_I (g 129 6))]) := rfl
theorem o_m130 (g : Nat → Nat → Int) : o_mem g 130 = .inr (2, [.int (o_I (g 130 0)), .ref 131, .ref 132, .ref 133]) := rfl
theorem o_m131 (g : Nat → Nat → Int) : o_mem g 131 = .inl (0, 6, .inl (fun j => o_I (g 131 j))) := rfl
theorem o_m132 (g : Nat → Nat → Int) : o_mem g 132 = .inl (0, 6, .inl (fun j => o_I (g 132 j))) := rfl
theorem o_m133 (g : Nat → Nat → Int) : o_mem g 133 = .inl (0, 6, .inl (fun j => o_I (g 133 j))) := rfl
theorem o_m134 (g : Nat → Nat → Int) : o_mem g 134 = .inr (3, [.int (o_I (g 134 0)), .ref 135, .ref 136, .ref 137, .ref 138, .ref 139]) := rfl
theorem o_m135 (g : Nat → Nat → Int) : o_mem g 135 = .inl (0, 8, .inl (fun j => o_I (g 135 j))) := rfl
theorem o_m136 (g : Nat → Nat → Int) : o_mem g 136 = .inl (0, 8, .inl (fun j => o_I (g 136 j))) := rfl
theorem o_m137 (g : Nat → Nat → Int) : o_mem g 137 = .inl (0, 8, .inl (fun j => o_I (g 137 j))) := rfl
theorem o_m138 (g : Nat → Nat → Int) : o_mem g 138 = .inl (0, 8, .inl (fun j => o_I (g 138 j))) := rfl
theorem o_m139 (g : Nat → Nat → Int) : o_mem g 139 = .inl (1, 8, .inl (fun j => o_I (g 139 j))) := rfl
theorem o_m140 (g : Nat → Nat → Int) : o_mem g 140 = .inr (4, [.int (o_I (g 140 0)), .ref 141, .ref 142]) := rfl
theorem o_m141 (g : Nat → Nat → Int) : o_mem g 141 = .inl (0, 8, .inl (fun j => o_I (g 141 j))) := rfl
theorem o_m142 (g : Nat → Nat → Int) : o_mem g 142 = .inl (0, 8, .inl (fun j => o_I (g 142 j))) := rfl
theorem o_m143 (g : Nat → Nat → Int) : o_mem g 143 = .inr (1, [.ref 144, .ref 148, .ref 154, .int (o_I (g 143 3)), .int (o_I (g 143 4)), .int (o_I (g 143 5)), .int (o_I (g 143 6))]) := rfl
theorem o_m144 (g : Nat → Nat → Int) : o_mem g 144 = .inr (2, [.int (o_I (g 144 0)), .ref 145, .ref 146, .ref 147]) := rfl
theorem o_m145 (g : Nat → Nat → Int) : o_mem g 145 = .inl (0, 6, .inl (fun j => o_I (g 145 j))) := rfl
theorem o_m146 (g : Nat → Nat → Int) : o_mem g 146 = .inl (0, 6, .inl (fun j => o_I (g 146 j))) := rfl
theorem o_m147 (g : Nat → Nat → Int) : o_mem g 147 = .inl (0, 6, .inl (fun j => o_I (g 147 j))) := rfl
theorem o_m148 (g : Nat → Nat → Int) : o_mem g 148 = .inr (3, [.int (o_I (g 148 0)), .ref 149, .ref 150, .ref 151, .ref 152, .ref 153]) := rfl
theorem o_m149 (g : Nat → Nat → Int) : o_mem g 149 = .inl (0, 8, .inl (fun j => o_I (g 149 j))) := rfl
theorem o_m150 (g : Nat → Nat → Int) : o_mem g 150 = .inl (0, 8, .inl (fun j => o_I (g 150 j))) := rfl
theorem o_m151 (g : Nat → Nat → Int) : o_mem g 151 = .inl (0, 8, .inl (fun j => o_I (g 151 j))) := rfl
theorem o_m152 (g : Nat → Nat → Int) : o_mem g 152 = .inl (0, 8, .inl (fun j => o_I (g 152 j))) := rfl
theorem o_m153 (g : Nat → Nat → Int) : o_mem g 153 = .inl (1, 8, .inl (fun j => o_I (g 153 j))) := rfl
theorem o_m154 (g : Nat → Nat → Int) : o_mem g 154 = .inr (4, [.int (o_I (g 154 0)), .ref 155, .ref 156]) := rfl
theorem o_m155 (g : Nat → Nat → Int) : o_mem g 155 = .inl (0, 8, .inl (fun j => o_I (g 155 j))) := rfl
theorem o_m156 (g : Nat → Nat → Int) : o_mem g 156 = .inl (0, 8, .inl (fun j => o_I (g 156 j))) := rfl
theorem o_m157 (g : Nat → Nat → Int) : o_mem g 157 = .inr (6, [.ref 158]) := rfl
theorem o_m158 (g : Nat → Nat → Int) : o_mem g 158 = .inl (0, 25, .inl (fun j => o_I (g 158 j))) := rfl
theorem o_m159 (g : Nat → Nat → Int) : o_mem g 159 = .inr (7, [.ref 160, .ref 161, .ref 162, .int (o_I (g 159 3))]) := rfl
theorem o_m160 (g : Nat → Nat → Int) : o_mem g 160 = .inl (0, 6, .inl (fun j => o_I (g 160 j))) := rfl
theorem o_m161 (g : Nat → Nat → Int) : o_mem g 161 = .inl (0, 6, .inl (fun j => o_I (g 161 j))) := rfl
theorem o_m162 (g : Nat → Nat → Int) : o_mem g 162 = .inl (1, 6, .inl (fun j => o_I (g 162 j))) := rfl
theorem o_m163 (g : Nat → Nat → Int) : o_mem g 163 = .inr (8, [.ref 164, .ref 165, .int (o_I (g 163 2)), .int (o_I (g 163 3)), .int (o_I (g 163 4))]) := rfl
theorem o_m164 (g : Nat → Nat → Int) : o_mem g 164 = .inl (2, 60, .inl (fun j => o_I (g 164 j))) := rfl
theorem o_m165 (g : Nat → Nat → Int) : o_mem g 165 = .inl (6, 12, .inr (.inr (.inr (.inr (fun j => some (if j < 12 then 166 + 2 * j else 0)))))) := rfl
theorem o_m166 (g : Nat → Nat → Int) : o_mem g 166 = .inr (9, [.ref (1000000 + (g 166 0).toNat), .ref 167]) := rfl
theorem o_m167 (g : Nat → Nat → Int) : o_mem g 167 = .inl (0, 3, .inl (fun j => o_I (g 167 j))) := rfl
theorem o_m168 (g : Nat → Nat → Int) : o_mem g 168 = .inr (9, [.ref (1000000 + (g 168 0).toNat), .ref 169]) := rfl
theorem o_m169 (g : Nat → Nat → Int) : o_mem g 169 = .inl (0, 3, .inl (fun j => o_I (g 169 j))) := rfl
theorem o_m170 (g : Nat → Nat → Int) : o_mem g 170 = .inr (9, [.ref (1000000 + (g 170 0).toNat), .ref 171]) := rfl
theorem o_m171 (g : Nat → Nat → Int) : o_mem g 171 = .inl (0, 3, .inl (fun j => o_I (g 171 j))) := rfl
theorem o_m172 (g : Nat → Nat → Int) : o_mem g 172 = .inr (9, [.ref (1000000 + (g 172 0).toNat), .ref 173]) := rfl
theorem o_m173 (g : Nat → Nat → Int) : o_mem g 173 = .inl (0, 3, .inl (fun j => o_I (g 173 j))) := rfl
theorem o_m174 (g : Nat → Nat → Int) : o_mem g 174 = .inr (9, [.ref (1000000 + (g 174 0).toNat), .ref 175]) := rfl
theorem o_m175 (g : Nat → Nat → Int) : o_mem g 175 = .inl (0, 3, .inl (fun j => o_I (g 175 j))) := rfl
theorem o_m176 (g : Nat → Nat → Int) : o_mem g 176 = .inr (9, [.ref (1000000 + (g 176 0).toNat), .ref 177]) := rfl
theorem o_m177 (g : Nat → Nat → Int) : o_mem g 177 = .inl (0, 3, .inl (fun j => o_I (g 177 j))) := rfl
theorem o_m178 (g : Nat → Nat → Int) : o_mem g 178 = .inr (9, [.ref (1000000 + (g 178 0).toNat), .ref 179]) := rfl
theorem o_m179 (g : Nat → Nat → Int) : o_mem g 179 = .inl (0, 3, .inl (fun j => o_I (g 179 j))) := rfl
theorem o_m180 (g : Nat → Nat → Int) : o_mem g 180 = .inr (9, [.ref (1000000 + (g 180 0).toNat), .ref 181]) := rfl
theorem o_m181 (g : Nat → Nat → Int) : o_mem g 181 = .inl (0, 3, .inl (fun j => o_I (g 181 j))) := rfl
theorem o_m182 (g : Nat → Nat → Int) : o_mem g 182 = .inr (9, [.ref (1000000 + (g 182 0).toNat), .ref 183]) := rfl
theorem o_m183 (g : Nat → Nat → Int) : o_mem g 183 = .inl (0, 3, .inl (fun j => o_I (g 183 j))) := rfl
theorem o_m184 (g : Nat → Nat → Int) : o_mem g 184 = .inr (9, [.ref (1000000 + (g 184 0).toNat), .ref 185]) := rfl
theorem o_m185 (g : Nat → Nat → Int) : o_mem g 185 = .inl (0, 3, .inl (fun j => o_I (g 185 j))) := rfl
theorem o_m186 (g : Nat → Nat → Int) : o_mem g 186 = .inr (9, [.ref (1000000 + (g 186 0).toNat), .ref 187]) := rfl
theorem o_m187 (g : Nat → Nat → Int) : o_mem g 187 = .inl (0, 3, .inl (fun j => o_I (g 187 j))) := rfl
theorem o_m188 (g : Nat → Nat → Int) : o_mem g 188 = .inr (9, [.ref (1000000 + (g 188 0).toNat), .ref 189]) := rfl
theorem o_m189 (g : Nat → Nat → Int) : o_mem g 189 = .inl (0, 3, .inl (fun j => o_I (g 189 j))) := rfl
theorem o_m190 (g : Nat → Nat → Int) : o_mem g 190 = .inr (11, [.ref 191, .int (o_I (g 190 1)), .int (o_I (g 190 2)), .int (o_I (g 190 3))]) := rfl
theorem o_m191 (g : Nat → Nat → Int) : o_mem g 191 = .inl (3, (g 190 9).toNat, .inl (fun j => o_I (g 191 j))) := rfl
section OS
variable {l : Launch} {M : o_M} {d : Nat} {al : Nat → Prop} {post : o_P} {pc : Nat} {ls : List (Nat × Value)} {st : List Value} {n : Nat} {h : Nat → o_C} {mc ms : Nat} {g : Nat → Nat → Int}
theorem o_gf {b ci k i : Nat} {fs : List Value} {v : Value} (hd : decode M.2.1 pc = .ok (.getfield i, 3)) (hf : o_fl M.1 i ci k) (hh : h b = .inr (ci, fs)) (hb : b < n) (hv : fs[k]? = some v) (k9 : o_V l M d al post (pc + 3) ls (v :: st) n h mc ms) : o_V l M d al post pc ls (.ref b :: st) n h mc ms := by
  obtain ⟨C, T, N, h1, h2, h3⟩ := hf
  exact o_getf hd hb hh h1 h2 h3 hv k9
theorem o_pf {b ci k i : Nat} {fs : List Value} {v : Value} {ty : FieldType} {h' : Nat → o_C} (hd : decode M.2.1 pc = .ok (.putfield i, 3)) (hf : o_fp M.1 i ci k ty) (hh : h b = .inr (ci, fs)) (hb : b < n) (hl : k < fs.length) (hn : ∀ ad, narrow ty (o_rV ad v) = o_rV ad v) (hf2 : ∀ ad, fits ty (o_rV ad v) = true) (e9 : o_up h b (.inr (ci, fs.set k v)) = h') (k9 : o_V l M d al post (pc + 3) ls st n h' mc ms) : o_V l M d al post pc ls (v :: .ref b :: st) n h mc ms := by
  obtain ⟨C, T, N, h1, h2, h3, h4, h5⟩ := hf
  exact o_putf hd hb hh h1 h2 h3 h4 h5 hl hn hf2 e9 k9
abbrev o_FF (k : Nat) : (Nat → Int) → Int → o_C := o_F.getD k (fun _ _ => .inr (0, []))
/-- an int field is written, in the shape -/
theorem o_pm {b ci k i : Nat} {fs : List Value} {z : Int} {ty : FieldType} (hd : decode M.2.1 pc = .ok (.putfield i, 3)) (hf : o_fp M.1 i ci k ty) (hh : o_mem g b = .inr (ci, fs)) (hb : b < n) (hl : k < fs.length) (hn : narrow ty (.int (o_I z)) = .int (o_I z)) (hf2 : fits ty (.int (o_I z)) = true) (hc : Sum.inr (ci, fs.set k (.int (o_I z))) = o_FF b (o_u (g b) k z) (g 190 9)) (h9 : (o_w g b (o_u (g b) k z)) 190 9 = g 190 9) (k9 : o_V l M d al post (pc + 3) ls st n (o_mem (o_w g b (o_u (g b) k z))) mc ms) : o_V l M d al post pc ls (.int (o_I z) :: .ref b :: st) n (o_mem g) mc ms :=
  o_pf hd hf hh hb hl (fun _ => hn) (fun _ => hf2) (o_mw hc h9) k9
/-- an int of an array is written, in the shape -/
theorem o_iam {b len : Nat} {f : Nat → Int} {i z : Int} (hd : decode M.2.1 pc = .ok (.iastore, 1)) (hh : o_mem g b = .inl (0, len, .inl (fun j => o_I (f j)))) (hb : b < n) (hle : len ≤ 2147483647) (h0 : 0 ≤ i) (h1 : i < len) (hc : ∀ f' : Nat → Int, (Sum.inl (0, len, .inl (fun j => o_I (f' j))) : o_C) = o_FF b f' (g 190 9)) (h9 : (o_w g b (o_u f i.toNat z)) 190 9 = g 190 9) (k9 : o_V l M d al post (pc + 1) ls st n (o_mem (o_w g b (o_u f i.toNat z))) mc ms) : o_V l M d al post pc ls (.int (o_I z) :: .int (o_I i) :: .ref b :: st) n (o_mem g) mc ms :=
  o_iast hd hb hh hle h0 h1 (o_mw (hc _) h9) k9
theorem o_zam {b len : Nat} {f : Nat → Int} {i z : Int} (hd : decode M.2.1 pc = .ok (.bastore, 1)) (hh : o_mem g b = .inl (1, len, .inl (fun j => o_I (f j)))) (hb : b < n) (hle : len ≤ 2147483647) (h0 : 0 ≤ i) (h1 : i < len) (hz : z = 0 ∨ z = 1) (hc : ∀ f' : Nat → Int, (Sum.inl (1, len, .inl (fun j => o_I (f' j))) : o_C) = o_FF b f' (g 190 9)) (h9 : (o_w g b (o_u f i.toNat z)) 190 9 = g 190 9) (k9 : o_V l M d al post (pc + 1) ls st n (o_mem (o_w g b (o_u f i.toNat z))) mc ms) : o_V l M d al post pc ls (.int (o_I z) :: .int (o_I i) :: .ref b :: st) n (o_mem g) mc ms :=
  o_zast hd hb hh hle h0 h1 (by rcases hz with rfl | rfl <;> decide +kernel) (o_mw (hc _) h9) k9
theorem o_cam {b len : Nat} {f : Nat → Int} {i z : Int} (hd : decode M.2.1 pc = .ok (.castore, 1)) (hh : o_mem g b = .inl (2, len, .inl (fun j => o_I (f j)))) (hb : b < n) (hle : len ≤ 2147483647) (h0 : 0 ≤ i) (h1 : i < len) (hz : vp_nar .char (o_I z) = o_I z) (hc : ∀ f' : Nat → Int, (Sum.inl (2, len, .inl (fun j => o_I (f' j))) : o_C) = o_FF b f' (g 190 9)) (h9 : (o_w g b (o_u f i.toNat z)) 190 9 = g 190 9) (k9 : o_V l M d al post (pc + 1) ls st n (o_mem (o_w g b (o_u f i.toNat z))) mc ms) : o_V l M d al post pc ls (.int (o_I z) :: .int (o_I i) :: .ref b :: st) n (o_mem g) mc ms :=
  o_cast hd hb hh hle h0 h1 hz (o_mw (hc _) h9) k9
/-- booleans -/
def o_b (p : Prop) [Decidable p] : Int := if p then 1 else 0
theorem o_b1 {p : Prop} [Decidable p] (h : p) : o_b p = 1 := if_pos h
theorem o_b0 {p : Prop} [Decidable p] (h : ¬ p) : o_b p = 0 := if_neg h
theorem o_bR (p : Prop) [Decidable p] : o_R (o_b p) := by
  unfold o_b
  split <;> exact ⟨by omega, by omega⟩
theorem o_b01 (p : Prop) [Decidable p] : o_b p = 0 ∨ o_b p = 1 := by
  unfold o_b
  split <;> simp
theorem o_bn (p : Prop) [Decidable p] : narrow .boolean (.int (o_I (o_b p))) = .int (o_I (o_b p)) := by
  rcases o_b01 p with q | q <;> rw [q] <;> decide +kernel
theorem o_ifb_eq {p : Prop} [Decidable p] {off : Int} {tgt : Nat} (hd : decode M.2.1 pc = .ok (.ifCond .eq off, 3)) (ht : (pc : Int) + off = (tgt : Int)) (k1 : ¬ p → o_V l M d al post tgt ls st n h mc ms) (k2 : p → o_V l M d al post (pc + 3) ls st n h mc ms) : o_V l M d al post pc ls (.int (o_I (o_b p)) :: st) n h mc ms :=
  o_if_eq hd ht (o_bR p) (fun q => k1 (fun z => by rw [o_b1 z] at q; cases q)) (fun q => k2 (Classical.byContradiction fun z => q (o_b0 z)))
theorem o_ifb_ne {p : Prop} [Decidable p] {off : Int} {tgt : Nat} (hd : decode M.2.1 pc = .ok (.ifCond .ne off, 3)) (ht : (pc : Int) + off = (tgt : Int)) (k1 : p → o_V l M d al post tgt ls st n h mc ms) (k2 : ¬ p → o_V l M d al post (pc + 3) ls st n h mc ms) : o_V l M d al post pc ls (.int (o_I (o_b p)) :: st) n h mc ms :=
  o_if_ne hd ht (o_bR p) (fun q => k1 (Classical.byContradiction fun z => q (o_b0 z))) (fun q => k2 (fun z => by rw [o_b1 z] at q; cases q))
theorem o_isB {p : Prop} [Decidable p] {z : Int} (hz : o_b p = z) : o_is (some (.int (o_I (o_b p)))) n h (.inl (some (.int (o_I z)))) n h := ⟨by rw [hz], rfl, rfl⟩
end OS
