/-! the StringBuilder -/
def o_nr9 : o_C → Prop
  | .inl a => match a.2.2 with
    | .inr (.inr (.inr (.inr f))) => ∀ j r : Nat, f j = some r → r ≠ 191 ∧ r ≠ 192
    | _ => True
  | .inr o => ∀ v ∈ o.2, ∀ r : Nat, v = .ref r → r ≠ 191 ∧ r ≠ 192
def o_P9 (F : (Nat → Int) → Int → o_C) : Prop := (∀ f z z', F f z = F f z') ∧ ∀ f z, o_nr9 (F f z)
def o_Fa0 : List ((Nat → Int) → Int → o_C) := [
  fun f c => .inr (0, [.ref 1, .ref 15, .ref 29, .int (o_I (f 3)), .ref 43, .ref 157, .ref 159, .ref 163, .ref 190, .int (o_I (f 9)), .int (o_I (f 10)), .int (o_I (f 11))]),
  fun f c => .inr (1, [.ref 2, .ref 6, .ref 12, .int (o_I (f 3)), .int (o_I (f 4)), .int (o_I (f 5)), .int (o_I (f 6))]),
  fun f c => .inr (2, [.int (o_I (f 0)), .ref 3, .ref 4, .ref 5]),
  fun f c => .inl (0, 6, .inl (fun j => o_I (f j))),
  fun f c => .inl (0, 6, .inl (fun j => o_I (f j))),
  fun f c => .inl (0, 6, .inl (fun j => o_I (f j))),
  fun f c => .inr (3, [.int (o_I (f 0)), .ref 7, .ref 8, .ref 9, .ref 10, .ref 11]),
  fun f c => .inl (0, 8, .inl (fun j => o_I (f j))),
  fun f c => .inl (0, 8, .inl (fun j => o_I (f j))),
  fun f c => .inl (0, 8, .inl (fun j => o_I (f j))),
  fun f c => .inl (0, 8, .inl (fun j => o_I (f j))),
  fun f c => .inl (1, 8, .inl (fun j => o_I (f j))),
  fun f c => .inr (4, [.int (o_I (f 0)), .ref 13, .ref 14]),
  fun f c => .inl (0, 8, .inl (fun j => o_I (f j))),
  fun f c => .inl (0, 8, .inl (fun j => o_I (f j))),
  fun f c => .inr (1, [.ref 16, .ref 20, .ref 26, .int (o_I (f 3)), .int (o_I (f 4)), .int (o_I (f 5)), .int (o_I (f 6))]),
  fun f c => .inr (2, [.int (o_I (f 0)), .ref 17, .ref 18, .ref 19]),
  fun f c => .inl (0, 6, .inl (fun j => o_I (f j))),
  fun f c => .inl (0, 6, .inl (fun j => o_I (f j)))]
set_option maxRecDepth 100000 in
set_option maxHeartbeats 4000000 in
theorem o_Fa0_ok : ∀ F ∈ o_Fa0, o_P9 F := List.forall_mem_cons.mpr ⟨⟨fun _ _ _ => rfl, fun f z v hv r hr => by simp only [List.mem_cons, List.not_mem_nil, or_false] at hv; rcases hv with rfl | rfl | rfl | rfl | rfl | rfl | rfl | rfl | rfl | rfl | rfl | rfl <;> first | (cases hr; done) | (cases hr; constructor <;> omega)⟩, List.forall_mem_cons.mpr ⟨⟨fun _ _ _ => rfl, fun f z v hv r hr => by simp only [List.mem_cons, List.not_mem_nil, or_false] at hv; rcases hv with rfl | rfl | rfl | rfl | rfl | rfl | rfl <;> first | (cases hr; done) | (cases hr; constructor <;> omega)⟩, List.forall_mem_cons.mpr ⟨⟨fun _ _ _ => rfl, fun f z v hv r hr => by simp only [List.mem_cons, List.not_mem_nil, or_false] at hv; rcases hv with rfl | rfl | rfl | rfl <;> first | (cases hr; done) | (cases hr; constructor <;> omega)⟩, List.forall_mem_cons.mpr ⟨⟨fun _ _ _ => rfl, fun _ _ => trivial⟩, List.forall_mem_cons.mpr ⟨⟨fun _ _ _ => rfl, fun _ _ => trivial⟩, List.forall_mem_cons.mpr ⟨⟨fun _ _ _ => rfl, fun _ _ => trivial⟩, List.forall_mem_cons.mpr ⟨⟨fun _ _ _ => rfl, fun f z v hv r hr => by simp only [List.mem_cons, List.not_mem_nil, or_false] at hv; rcases hv with rfl | rfl | rfl | rfl | rfl | rfl <;> first | (cases hr; done) | (cases hr; constructor <;> omega)⟩, List.forall_mem_cons.mpr ⟨⟨fun _ _ _ => rfl, fun _ _ => trivial⟩, List.forall_mem_cons.mpr ⟨⟨fun _ _ _ => rfl, fun _ _ => trivial⟩, List.forall_mem_cons.mpr ⟨⟨fun _ _ _ => rfl, fun _ _ => trivial⟩, List.forall_mem_cons.mpr ⟨⟨fun _ _ _ => rfl, fun _ _ => trivial⟩, List.forall_mem_cons.mpr ⟨⟨fun _ _ _ => rfl, fun _ _ => trivial⟩, List.forall_mem_cons.mpr ⟨⟨fun _ _ _ => rfl, fun f z v hv r hr => by simp only [List.mem_cons, List.not_mem_nil, or_false] at hv; rcases hv with rfl | rfl | rfl <;> first | (cases hr; done) | (cases hr; constructor <;> omega)⟩, List.forall_mem_cons.mpr ⟨⟨fun _ _ _ => rfl, fun _ _ => trivial⟩, List.forall_mem_cons.mpr ⟨⟨fun _ _ _ => rfl, fun _ _ => trivial⟩, List.forall_mem_cons.mpr ⟨⟨fun _ _ _ => rfl, fun f z v hv r hr => by simp only [List.mem_cons, List.not_mem_nil, or_false] at hv; rcases hv with rfl | rfl | rfl | rfl | rfl | rfl | rfl <;> first | (cases hr; done) | (cases hr; constructor <;> omega)⟩, List.forall_mem_cons.mpr ⟨⟨fun _ _ _ => rfl, fun f z v hv r hr => by simp only [List.mem_cons, List.not_mem_nil, or_false] at hv; rcases hv with rfl | rfl | rfl | rfl <;> first | (cases hr; done) | (cases hr; constructor <;> omega)⟩, List.forall_mem_cons.mpr ⟨⟨fun _ _ _ => rfl, fun _ _ => trivial⟩, List.forall_mem_cons.mpr ⟨⟨fun _ _ _ => rfl, fun _ _ => trivial⟩, fun _ h => absurd h List.not_mem_nil⟩⟩⟩⟩⟩⟩⟩⟩⟩⟩⟩⟩⟩⟩⟩⟩⟩⟩⟩
def o_Fa1 : List ((Nat → Int) → Int → o_C) := [
  fun f c => .inl (0, 6, .inl (fun j => o_I (f j))),
  fun f c => .inr (3, [.int (o_I (f 0)), .ref 21, .ref 22, .ref 23, .ref 24, .ref 25]),
  fun f c => .inl (0, 8, .inl (fun j => o_I (f j))),
  fun f c => .inl (0, 8, .inl (fun j => o_I (f j))),
  fun f c => .inl (0, 8, .inl (fun j => o_I (f j))),
  fun f c => .inl (0, 8, .inl (fun j => o_I (f j))),
  fun f c => .inl (1, 8, .inl (fun j => o_I (f j))),
  fun f c => .inr (4, [.int (o_I (f 0)), .ref 27, .ref 28]),
  fun f c => .inl (0, 8, .inl (fun j => o_I (f j))),
  fun f c => .inl (0, 8, .inl (fun j => o_I (f j))),
  fun f c => .inr (1, [.ref 30, .ref 34, .ref 40, .int (o_I (f 3)), .int (o_I (f 4)), .int (o_I (f 5)), .int (o_I (f 6))]),
  fun f c => .inr (2, [.int (o_I (f 0)), .ref 31, .ref 32, .ref 33]),
  fun f c => .inl (0, 6, .inl (fun j => o_I (f j))),
  fun f c => .inl (0, 6, .inl (fun j => o_I (f j))),
  fun f c => .inl (0, 6, .inl (fun j => o_I (f j))),
  fun f c => .inr (3, [.int (o_I (f 0)), .ref 35, .ref 36, .ref 37, .ref 38, .ref 39]),
  fun f c => .inl (0, 8, .inl (fun j => o_I (f j))),
  fun f c => .inl (0, 8, .inl (fun j => o_I (f j))),
  fun f c => .inl (0, 8, .inl (fun j => o_I (f j)))]
set_option maxRecDepth 100000 in
set_option maxHeartbeats 4000000 in
theorem o_Fa1_ok : ∀ F ∈ o_Fa1, o_P9 F := List.forall_mem_cons.mpr ⟨⟨fun _ _ _ => rfl, fun _ _ => trivial⟩, List.forall_mem_cons.mpr ⟨⟨fun _ _ _ => rfl, fun f z v hv r hr => by simp only [List.mem_cons, List.not_mem_nil, or_false] at hv; rcases hv with rfl | rfl | rfl | rfl | rfl | rfl <;> first | (cases hr; done) | (cases hr; constructor <;> omega)⟩, List.forall_mem_cons.mpr ⟨⟨fun _ _ _ => rfl, fun _ _ => trivial⟩, List.forall_mem_cons.mpr ⟨⟨fun _ _ _ => rfl, fun _ _ => trivial⟩, List.forall_mem_cons.mpr ⟨⟨fun _ _ _ => rfl, fun _ _ => trivial⟩, List.forall_mem_cons.mpr ⟨⟨fun _ _ _ => rfl, fun _ _ => trivial⟩, List.forall_mem_cons.mpr ⟨⟨fun _ _ _ => rfl, fun _ _ => trivial⟩, List.forall_mem_cons.mpr ⟨⟨fun _ _ _ => rfl, fun f z v hv r hr => by simp only [List.mem_cons, List.not_mem_nil, or_false] at hv; rcases hv with rfl | rfl | rfl <;> first | (cases hr; done) | (cases hr; constructor <;> omega)⟩, List.forall_mem_cons.mpr ⟨⟨fun _ _ _ => rfl, fun _ _ => trivial⟩, List.forall_mem_cons.mpr ⟨⟨fun _ _ _ => rfl, fun _ _ => trivial⟩, List.forall_mem_cons.mpr ⟨⟨fun _ _ _ => rfl, fun f z v hv r hr => by simp only [List.mem_cons, List.not_mem_nil, or_false] at hv; rcases hv with rfl | rfl | rfl | rfl | rfl | rfl | rfl <;> first | (cases hr; done) | (cases hr; constructor <;> omega)⟩, List.forall_mem_cons.mpr ⟨⟨fun _ _ _ => rfl, fun f z v hv r hr => by simp only [List.mem_cons, List.not_mem_nil, or_false] at hv; rcases hv with rfl | rfl | rfl | rfl <;> first | (cases hr; done) | (cases hr; constructor <;> omega)⟩, List.forall_mem_cons.mpr ⟨⟨fun _ _ _ => rfl, fun _ _ => trivial⟩, List.forall_mem_cons.mpr ⟨⟨fun _ _ _ => rfl, fun _ _ => trivial⟩, List.forall_mem_cons.mpr ⟨⟨fun _ _ _ => rfl, fun _ _ => trivial⟩, List.forall_mem_cons.mpr ⟨⟨fun _ _ _ => rfl, fun f z v hv r hr => by simp only [List.mem_cons, List.not_mem_nil, or_false] at hv; rcases hv with rfl | rfl | rfl | rfl | rfl | rfl <;> first | (cases hr; done) | (cases hr; constructor <;> omega)⟩, List.forall_mem_cons.mpr ⟨⟨fun _ _ _ => rfl, fun _ _ => trivial⟩, List.forall_mem_cons.mpr ⟨⟨fun _ _ _ => rfl, fun _ _ => trivial⟩, List.forall_mem_cons.mpr ⟨⟨fun _ _ _ => rfl, fun _ _ => trivial⟩, fun _ h => absurd h List.not_mem_nil⟩⟩⟩⟩⟩⟩⟩⟩⟩⟩⟩⟩⟩⟩⟩⟩⟩⟩⟩
def o_Fa2 : List ((Nat → Int) → Int → o_C) := [
  fun f c => .inl (0, 8, .inl (fun j => o_I (f j))),
  fun f c => .inl (1, 8, .inl (fun j => o_I (f j))),
  fun f c => .inr (4, [.int (o_I (f 0)), .ref 41, .ref 42]),
  fun f c => .inl (0, 8, .inl (fun j => o_I (f j))),
  fun f c => .inl (0, 8, .inl (fun j => o_I (f j))),
  fun f c => .inr (5, [.ref 44, .int (o_I (f 1)), .int (o_I (f 2))]),
  fun f c => .inl (7, 8, .inr (.inr (.inr (.inr (fun j => some (if j < 8 then 45 + 14 * j else 0)))))),
  fun f c => .inr (1, [.ref 46, .ref 50, .ref 56, .int (o_I (f 3)), .int (o_I (f 4)), .int (o_I (f 5)), .int (o_I (f 6))]),
  fun f c => .inr (2, [.int (o_I (f 0)), .ref 47, .ref 48, .ref 49]),
  fun f c => .inl (0, 6, .inl (fun j => o_I (f j))),
  fun f c => .inl (0, 6, .inl (fun j => o_I (f j))),
  fun f c => .inl (0, 6, .inl (fun j => o_I (f j))),
  fun f c => .inr (3, [.int (o_I (f 0)), .ref 51, .ref 52, .ref 53, .ref 54, .ref 55]),
  fun f c => .inl (0, 8, .inl (fun j => o_I (f j))),
  fun f c => .inl (0, 8, .inl (fun j => o_I (f j))),
  fun f c => .inl (0, 8, .inl (fun j => o_I (f j))),
  fun f c => .inl (0, 8, .inl (fun j => o_I (f j))),
  fun f c => .inl (1, 8, .inl (fun j => o_I (f j))),
  fun f c => .inr (4, [.int (o_I (f 0)), .ref 57, .ref 58])]
set_option maxRecDepth 100000 in
set_option maxHeartbeats 4000000 in
theorem o_Fa2_ok : ∀ F ∈ o_Fa2, o_P9 F := List.forall_mem_cons.mpr ⟨⟨fun _ _ _ => rfl, fun _ _ => trivial⟩, List.forall_mem_cons.mpr ⟨⟨fun _ _ _ => rfl, fun _ _ => trivial⟩, List.forall_mem_cons.mpr ⟨⟨fun _ _ _ => rfl, fun f z v hv r hr => by simp only [List.mem_cons, List.not_mem_nil, or_false] at hv; rcases hv with rfl | rfl | rfl <;> first | (cases hr; done) | (cases hr; constructor <;> omega)⟩, List.forall_mem_cons.mpr ⟨⟨fun _ _ _ => rfl, fun _ _ => trivial⟩, List.forall_mem_cons.mpr ⟨⟨fun _ _ _ => rfl, fun _ _ => trivial⟩, List.forall_mem_cons.mpr ⟨⟨fun _ _ _ => rfl, fun f z v hv r hr => by simp only [List.mem_cons, List.not_mem_nil, or_false] at hv; rcases hv with rfl | rfl | rfl <;> first | (cases hr; done) | (cases hr; constructor <;> omega)⟩, List.forall_mem_cons.mpr ⟨⟨fun _ _ _ => rfl, fun f z j r hr => by have hr := Option.some.inj hr; split at hr <;> (subst hr; constructor <;> omega)⟩, List.forall_mem_cons.mpr ⟨⟨fun _ _ _ => rfl, fun f z v hv r hr => by simp only [List.mem_cons, List.not_mem_nil, or_false] at hv; rcases hv with rfl | rfl | rfl | rfl | rfl | rfl | rfl <;> first | (cases hr; done) | (cases hr; constructor <;> omega)⟩, List.forall_mem_cons.mpr ⟨⟨fun _ _ _ => rfl, fun f z v hv r hr => by simp only [List.mem_cons, List.not_mem_nil, or_false] at hv; rcases hv with rfl | rfl | rfl | rfl <;> first | (cases hr; done) | (cases hr; constructor <;> omega)⟩, List.forall_mem_cons.mpr ⟨⟨fun _ _ _ => rfl, fun _ _ => trivial⟩, List.forall_mem_cons.mpr ⟨⟨fun _ _ _ => rfl, fun _ _ => trivial⟩, List.forall_mem_cons.mpr ⟨⟨fun _ _ _ => rfl, fun _ _ => trivial⟩, List.forall_mem_cons.mpr ⟨⟨fun _ _ _ => rfl, fun f z v hv r hr => by simp only [List.mem_cons, List.not_mem_nil, or_false] at hv; rcases hv with rfl | rfl | rfl | rfl | rfl | rfl <;> first | (cases hr; done) | (cases hr; constructor <;> omega)⟩, List.forall_mem_cons.mpr ⟨⟨fun _ _ _ => rfl, fun _ _ => trivial⟩, List.forall_mem_cons.mpr ⟨⟨fun _ _ _ => rfl, fun _ _ => trivial⟩, List.forall_mem_cons.mpr ⟨⟨fun _ _ _ => rfl, fun _ _ => trivial⟩, List.forall_mem_cons.mpr ⟨⟨fun _ _ _ => rfl, fun _ _ => trivial⟩, List.forall_mem_cons.mpr ⟨⟨fun _ _ _ => rfl, fun _ _ => trivial⟩, List.forall_mem_cons.mpr ⟨⟨fun _ _ _ => rfl, fun f z v hv r hr => by simp only [List.mem_cons, List.not_mem_nil, or_false] at hv; rcases hv with rfl | rfl | rfl <;> first | (cases hr; done) | (cases hr; constructor <;> omega)⟩, fun _ h => absurd h List.not_mem_nil⟩⟩⟩⟩⟩⟩⟩⟩⟩⟩⟩⟩⟩⟩⟩⟩⟩⟩⟩
def o_Fa3 : List ((Nat → Int) → Int → o_C) := [
  fun f c => .inl (0, 8, .inl (fun j => o_I (f j))),
  fun f c => .inl (0, 8, .inl (fun j => o_I (f j))),
  fun f c => .inr (1, [.ref 60, .ref 64, .ref 70, .int (o_I (f 3)), .int (o_I (f 4)), .int (o_I (f 5)), .int (o_I (f 6))]),
  fun f c => .inr (2, [.int (o_I (f 0)), .ref 61, .ref 62, .ref 63]),
  fun f c => .inl (0, 6, .inl (fun j => o_I (f j))),
  fun f c => .inl (0, 6, .inl (fun j => o_I (f j))),
  fun f c => .inl (0, 6, .inl (fun j => o_I (f j))),
  fun f c => .inr (3, [.int (o_I (f 0)), .ref 65, .ref 66, .ref 67, .ref 68, .ref 69]),
  fun f c => .inl (0, 8, .inl (fun j => o_I (f j))),
  fun f c => .inl (0, 8, .inl (fun j => o_I (f j))),
  fun f c => .inl (0, 8, .inl (fun j => o_I (f j))),
  fun f c => .inl (0, 8, .inl (fun j => o_I (f j))),
  fun f c => .inl (1, 8, .inl (fun j => o_I (f j))),
  fun f c => .inr (4, [.int (o_I (f 0)), .ref 71, .ref 72]),
  fun f c => .inl (0, 8, .inl (fun j => o_I (f j))),
  fun f c => .inl (0, 8, .inl (fun j => o_I (f j))),
  fun f c => .inr (1, [.ref 74, .ref 78, .ref 84, .int (o_I (f 3)), .int (o_I (f 4)), .int (o_I (f 5)), .int (o_I (f 6))]),
  fun f c => .inr (2, [.int (o_I (f 0)), .ref 75, .ref 76, .ref 77]),
  fun f c => .inl (0, 6, .inl (fun j => o_I (f j)))]
set_option maxRecDepth 100000 in
set_option maxHeartbeats 4000000 in
theorem o_Fa3_ok : ∀ F ∈ o_Fa3, o_P9 F := List.forall_mem_cons.mpr ⟨⟨fun _ _ _ => rfl, fun _ _ => trivial⟩, List.forall_mem_cons.mpr ⟨⟨fun _ _ _ => rfl, fun _ _ => trivial⟩, List.forall_mem_cons.mpr ⟨⟨fun _ _ _ => rfl, fun f z v hv r hr => by simp only [List.mem_cons, List.not_mem_nil, or_false] at hv; rcases hv with rfl | rfl | rfl | rfl | rfl | rfl | rfl <;> first | (cases hr; done) | (cases hr; constructor <;> omega)⟩, List.forall_mem_cons.mpr ⟨⟨fun _ _ _ => rfl, fun f z v hv r hr => by simp only [List.mem_cons, List.not_mem_nil, or_false] at hv; rcases hv with rfl | rfl | rfl | rfl <;> first | (cases hr; done) | (cases hr; constructor <;> omega)⟩, List.forall_mem_cons.mpr ⟨⟨fun _ _ _ => rfl, fun _ _ => trivial⟩, List.forall_mem_cons.mpr ⟨⟨fun _ _ _ => rfl, fun _ _ => trivial⟩, List.forall_mem_cons.mpr ⟨⟨fun _ _ _ => rfl, fun _ _ => trivial⟩, List.forall_mem_cons.mpr ⟨⟨fun _ _ _ => rfl, fun f z v hv r hr => by simp only [List.mem_cons, List.not_mem_nil, or_false] at hv; rcases hv with rfl | rfl | rfl | rfl | rfl | rfl <;> first | (cases hr; done) | (cases hr; constructor <;> omega)⟩, List.forall_mem_cons.mpr ⟨⟨fun _ _ _ => rfl, fun _ _ => trivial⟩, List.forall_mem_cons.mpr ⟨⟨fun _ _ _ => rfl, fun _ _ => trivial⟩, List.forall_mem_cons.mpr ⟨⟨fun _ _ _ => rfl, fun _ _ => trivial⟩, List.forall_mem_cons.mpr ⟨⟨fun _ _ _ => rfl, fun _ _ => trivial⟩, List.forall_mem_cons.mpr ⟨⟨fun _ _ _ => rfl, fun _ _ => trivial⟩, List.forall_mem_cons.mpr ⟨⟨fun _ _ _ => rfl, fun f z v hv r hr => by simp only [List.mem_cons, List.not_mem_nil, or_false] at hv; rcases hv with rfl | rfl | rfl <;> first | (cases hr; done) | (cases hr; constructor <;> omega)⟩, List.forall_mem_cons.mpr ⟨⟨fun _ _ _ => rfl, fun _ _ => trivial⟩, List.forall_mem_cons.mpr ⟨⟨fun _ _ _ => rfl, fun _ _ => trivial⟩, List.forall_mem_cons.mpr ⟨⟨fun _ _ _ => rfl, fun f z v hv r hr => by simp only [List.mem_cons, List.not_mem_nil, or_false] at hv; rcases hv with rfl | rfl | rfl | rfl | rfl | rfl | rfl <;> first | (cases hr; done) | (cases hr; constructor <;> omega)⟩, List.forall_mem_cons.mpr ⟨⟨fun _ _ _ => rfl, fun f z v hv r hr => by simp only [List.mem_cons, List.not_mem_nil, or_false] at hv; rcases hv with rfl | rfl | rfl | rfl <;> first | (cases hr; done) | (cases hr; constructor <;> omega)⟩, List.forall_mem_cons.mpr ⟨⟨fun _ _ _ => rfl, fun _ _ => trivial⟩, fun _ h => absurd h List.not_mem_nil⟩⟩⟩⟩⟩⟩⟩⟩⟩⟩⟩⟩⟩⟩⟩⟩⟩⟩⟩
def o_Fa4 : List ((Nat → Int) → Int → o_C) := [
  fun f c => .inl (0, 6, .inl (fun j => o_I (f j))),
  fun f c => .inl (0, 6, .inl (fun j => o_I (f j))),
  fun f c => .inr (3, [.int (o_I (f 0)), .ref 79, .ref 80, .ref 81, .ref 82, .ref 83]),
  fun f c => .inl (0, 8, .inl (fun j => o_I (f j))),
  fun f c => .inl (0, 8, .inl (fun j => o_I (f j))),
  fun f c => .inl (0, 8, .inl (fun j => o_I (f j))),
  fun f c => .inl (0, 8, .inl (fun j => o_I (f j))),
  fun f c => .inl (1, 8, .inl (fun j => o_I (f j))),
  fun f c => .inr (4, [.int (o_I (f 0)), .ref 85, .ref 86]),
  fun f c => .inl (0, 8, .inl (fun j => o_I (f j))),
  fun f c => .inl (0, 8, .inl (fun j => o_I (f j))),
  fun f c => .inr (1, [.ref 88, .ref 92, .ref 98, .int (o_I (f 3)), .int (o_I (f 4)), .int (o_I (f 5)), .int (o_I (f 6))]),
  fun f c => .inr (2, [.int (o_I (f 0)), .ref 89, .ref 90, .ref 91]),
  fun f c => .inl (0, 6, .inl (fun j => o_I (f j))),
  fun f c => .inl (0, 6, .inl (fun j => o_I (f j))),
  fun f c => .inl (0, 6, .inl (fun j => o_I (f j))),
  fun f c => .inr (3, [.int (o_I (f 0)), .ref 93, .ref 94, .ref 95, .ref 96, .ref 97]),
  fun f c => .inl (0, 8, .inl (fun j => o_I (f j))),
  fun f c => .inl (0, 8, .inl (fun j => o_I (f j)))]
set_option maxRecDepth 100000 in
set_option maxHeartbeats 4000000 in
theorem o_Fa4_ok : ∀ F ∈ o_Fa4, o_P9 F := List.forall_mem_cons.mpr ⟨⟨fun _ _ _ => rfl, fun _ _ => trivial⟩, List.forall_mem_cons.mpr ⟨⟨fun _ _ _ => rfl, fun _ _ => trivial⟩, List.forall_mem_cons.mpr ⟨⟨fun _ _ _ => rfl, fun f z v hv r hr => by simp only [List.mem_cons, List.not_mem_nil, or_false] at hv; rcases hv with rfl | rfl | rfl | rfl | rfl | rfl <;> first | (cases hr; done) | (cases hr; constructor <;> omega)⟩, List.forall_mem_cons.mpr ⟨⟨fun _ _ _ => rfl, fun _ _ => trivial⟩, List.forall_mem_cons.mpr ⟨⟨fun _ _ _ => rfl, fun _ _ => trivial⟩, List.forall_mem_cons.mpr ⟨⟨fun _ _ _ => rfl, fun _ _ => trivial⟩, List.forall_mem_cons.mpr ⟨⟨fun _ _ _ => rfl, fun _ _ => trivial⟩, List.forall_mem_cons.mpr ⟨⟨fun _ _ _ => rfl, fun _ _ => trivial⟩, List.forall_mem_cons.mpr ⟨⟨fun _ _ _ => rfl, fun f z v hv r hr => by simp only [List.mem_cons, List.not_mem_nil, or_false] at hv; rcases hv with rfl | rfl | rfl <;> first | (cases hr; done) | (cases hr; constructor <;> omega)⟩, List.forall_mem_cons.mpr ⟨⟨fun _ _ _ => rfl, fun _ _ => trivial⟩, List.forall_mem_cons.mpr ⟨⟨fun _ _ _ => rfl, fun _ _ => trivial⟩, List.forall_mem_cons.mpr ⟨⟨fun _ _ _ => rfl, fun f z v hv r hr => by simp only [List.mem_cons, List.not_mem_nil, or_false] at hv; rcases hv with rfl | rfl | rfl | rfl | rfl | rfl | rfl <;> first | (cases hr; done) | (cases hr; constructor <;> omega)⟩, List.forall_mem_cons.mpr ⟨⟨fun _ _ _ => rfl, fun f z v hv r hr => by simp only [List.mem_cons, List.not_mem_nil, or_false] at hv; rcases hv with rfl | rfl | rfl | rfl <;> first | (cases hr; done) | (cases hr; constructor <;> omega)⟩, List.forall_mem_cons.mpr ⟨⟨fun _ _ _ => rfl, fun _ _ => trivial⟩, List.forall_mem_cons.mpr ⟨⟨fun _ _ _ => rfl, fun _ _ => trivial⟩, List.forall_mem_cons.mpr ⟨⟨fun _ _ _ => rfl, fun _ _ => trivial⟩, List.forall_mem_cons.mpr ⟨⟨fun _ _ _ => rfl, fun f z v hv r hr => by simp only [List.mem_cons, List.not_mem_nil, or_false] at hv; rcases hv with rfl | rfl | rfl | rfl | rfl | rfl <;> first | (cases hr; done) | (cases hr; constructor <;> omega)⟩, List.forall_mem_cons.mpr ⟨⟨fun _ _ _ => rfl, fun _ _ => trivial⟩, List.forall_mem_cons.mpr ⟨⟨fun _ _ _ => rfl, fun _ _ => trivial⟩, fun _ h => absurd h List.not_mem_nil⟩⟩⟩⟩⟩⟩⟩⟩⟩⟩⟩⟩⟩⟩⟩⟩⟩⟩⟩
def o_Fa5 : List ((Nat → Int) → Int → o_C) := [
  fun f c => .inl (0, 8, .inl (fun j => o_I (f j))),
  fun f c => .inl (0, 8, .inl (fun j => o_I (f j))),
  fun f c => .inl (1, 8, .inl (fun j => o_I (f j))),
  fun f c => .inr (4, [.int (o_I (f 0)), .ref 99, .ref 100]),
  fun f c => .inl (0, 8, .inl (fun j => o_I (f j))),
  fun f c => .inl (0, 8, .inl (fun j => o_I (f j))),
  fun f c => .inr (1, [.ref 102, .ref 106, .ref 112, .int (o_I (f 3)), .int (o_I (f 4)), .int (o_I (f 5)), .int (o_I (f 6))]),
  fun f c => .inr (2, [.int (o_I (f 0)), .ref 103, .ref 104, .ref 105]),
  fun f c => .inl (0, 6, .inl (fun j => o_I (f j))),
  fun f c => .inl (0, 6, .inl (fun j => o_I (f j))),
  fun f c => .inl (0, 6, .inl (fun j => o_I (f j))),
  fun f c => .inr (3, [.int (o_I (f 0)), .ref 107, .ref 108, .ref 109, .ref 110, .ref 111]),
  fun f c => .inl (0, 8, .inl (fun j => o_I (f j))),
  fun f c => .inl (0, 8, .inl (fun j => o_I (f j))),
  fun f c => .inl (0, 8, .inl (fun j => o_I (f j))),
  fun f c => .inl (0, 8, .inl (fun j => o_I (f j))),
  fun f c => .inl (1, 8, .inl (fun j => o_I (f j))),
  fun f c => .inr (4, [.int (o_I (f 0)), .ref 113, .ref 114]),
  fun f c => .inl (0, 8, .inl (fun j => o_I (f j)))]
set_option maxRecDepth 100000 in
set_option maxHeartbeats 4000000 in
theorem o_Fa5_ok : ∀ F ∈ o_Fa5, o_P9 F := List.forall_mem_cons.mpr ⟨⟨fun _ _ _ => rfl, fun _ _ => trivial⟩, List.forall_mem_cons.mpr ⟨⟨fun _ _ _ => rfl, fun _ _ => trivial⟩, List.forall_mem_cons.mpr ⟨⟨fun _ _ _ => rfl, fun _ _ => trivial⟩, List.forall_mem_cons.mpr ⟨⟨fun _ _ _ => rfl, fun f z v hv r hr => by simp only [List.mem_cons, List.not_mem_nil, or_false] at hv; rcases hv with rfl | rfl | rfl <;> first | (cases hr; done) | (cases hr; constructor <;> omega)⟩, List.forall_mem_cons.mpr ⟨⟨fun _ _ _ => rfl, fun _ _ => trivial⟩, List.forall_mem_cons.mpr ⟨⟨fun _ _ _ => rfl, fun _ _ => trivial⟩, List.forall_mem_cons.mpr ⟨⟨fun _ _ _ => rfl, fun f z v hv r hr => by simp only [List.mem_cons, List.not_mem_nil, or_false] at hv; rcases hv with rfl | rfl | rfl | rfl | rfl | rfl | rfl <;> first | (cases hr; done) | (cases hr; constructor <;> omega)⟩, List.forall_mem_cons.mpr ⟨⟨fun _ _ _ => rfl, fun f z v hv r hr => by simp only [List.mem_cons, List.not_mem_nil, or_false] at hv; rcases hv with rfl | rfl | rfl | rfl <;> first | (cases hr; done) | (cases hr; constructor <;> omega)⟩, List.forall_mem_cons.mpr ⟨⟨fun _ _ _ => rfl, fun _ _ => trivial⟩, List.forall_mem_cons.mpr ⟨⟨fun _ _ _ => rfl, fun _ _ => trivial⟩, List.forall_mem_cons.mpr ⟨⟨fun _ _ _ => rfl, fun _ _ => trivial⟩, List.forall_mem_cons.mpr ⟨⟨fun _ _ _ => rfl, fun f z v hv r hr => by simp only [List.mem_cons, List.not_mem_nil, or_false] at hv; rcases hv with rfl | rfl | rfl | rfl | rfl | rfl <;> first | (cases hr; done) | (cases hr; constructor <;> omega)⟩, List.forall_mem_cons.mpr ⟨⟨fun _ _ _ => rfl, fun _ _ => trivial⟩, List.forall_mem_cons.mpr ⟨⟨fun _ _ _ => rfl, fun _ _ => trivial⟩, List.forall_mem_cons.mpr ⟨⟨fun _ _ _ => rfl, fun _ _ => trivial⟩, List.forall_mem_cons.mpr ⟨⟨fun _ _ _ => rfl, fun _ _ => trivial⟩, List.forall_mem_cons.mpr ⟨⟨fun _ _ _ => rfl, fun _ _ => trivial⟩, List.forall_mem_cons.mpr ⟨⟨fun _ _ _ => rfl, fun f z v hv r hr => by simp only [List.mem_cons, List.not_mem_nil, or_false] at hv; rcases hv with rfl | rfl | rfl <;> first | (cases hr; done) | (cases hr; constructor <;> omega)⟩, List.forall_mem_cons.mpr ⟨⟨fun _ _ _ => rfl, fun _ _ => trivial⟩, fun _ h => absurd h List.not_mem_nil⟩⟩⟩⟩⟩⟩⟩⟩⟩⟩⟩⟩⟩⟩⟩⟩⟩⟩⟩
def o_Fa6 : List ((Nat → Int) → Int → o_C) := [
  fun f c => .inl (0, 8, .inl (fun j => o_I (f j))),
  fun f c => .inr (1, [.ref 116, .ref 120, .ref 126, .int (o_I (f 3)), .int (o_I (f 4)), .int (o_I (f 5)), .int (o_I (f 6))]),
  fun f c => .inr (2, [.int (o_I (f 0)), .ref 117, .ref 118, .ref 119]),
  fun f c => .inl (0, 6, .inl (fun j => o_I (f j))),
  fun f c => .inl (0, 6, .inl (fun j => o_I (f j))),
  fun f c => .inl (0, 6, .inl (fun j => o_I (f j))),
  fun f c => .inr (3, [.int (o_I (f 0)), .ref 121, .ref 122, .ref 123, .ref 124, .ref 125]),
  fun f c => .inl (0, 8, .inl (fun j => o_I (f j))),
  fun f c => .inl (0, 8, .inl (fun j => o_I (f j))),
  fun f c => .inl (0, 8, .inl (fun j => o_I (f j))),
  fun f c => .inl (0, 8, .inl (fun j => o_I (f j))),
  fun f c => .inl (1, 8, .inl (fun j => o_I (f j))),
  fun f c => .inr (4, [.int (o_I (f 0)), .ref 127, .ref 128]),
  fun f c => .inl (0, 8, .inl (fun j => o_I (f j))),
  fun f c => .inl (0, 8, .inl (fun j => o_I (f j))),
  fun f c => .inr (1, [.ref 130, .ref 134, .ref 140, .int (o_I (f 3)), .int (o_I (f 4)), .int (o_I (f 5)), .int (o_I (f 6))]),
  fun f c => .inr (2, [.int (o_I (f 0)), .ref 131, .ref 132, .ref 133]),
  fun f c => .inl (0, 6, .inl (fun j => o_I (f j))),
  fun f c => .inl (0, 6, .inl (fun j => o_I (f j)))]
set_option maxRecDepth 100000 in
set_option maxHeartbeats 4000000 in
theorem o_Fa6_ok : ∀ F ∈ o_Fa6, o_P9 F := List.forall_mem_cons.mpr ⟨⟨fun _ _ _ => rfl, fun _ _ => trivial⟩, List.forall_mem_cons.mpr ⟨⟨fun _ _ _ => rfl, fun f z v hv r hr => by simp only [List.mem_cons, List.not_mem_nil, or_false] at hv; rcases hv with rfl | rfl | rfl | rfl | rfl | rfl | rfl <;> first | (cases hr; done) | (cases hr; constructor <;> omega)⟩, List.forall_mem_cons.mpr ⟨⟨fun _ _ _ => rfl, fun f z v hv r hr => by simp only [List.mem_cons, List.not_mem_nil, or_false] at hv; rcases hv with rfl | rfl | rfl | rfl <;> first | (cases hr; done) | (cases hr; constructor <;> omega)⟩, List.forall_mem_cons.mpr ⟨⟨fun _ _ _ => rfl, fun _ _ => trivial⟩, List.forall_mem_cons.mpr ⟨⟨fun _ _ _ => rfl, fun _ _ => trivial⟩, List.forall_mem_cons.mpr ⟨⟨fun _ _ _ => rfl, fun _ _ => trivial⟩, List.forall_mem_cons.mpr ⟨⟨fun _ _ _ => rfl, fun f z v hv r hr => by simp only [List.mem_cons, List.not_mem_nil, or_false] at hv; rcases hv with rfl | rfl | rfl | rfl | rfl | rfl <;> first | (cases hr; done) | (cases hr; constructor <;> omega)⟩, List.forall_mem_cons.mpr ⟨⟨fun _ _ _ => rfl, fun _ _ => trivial⟩, List.forall_mem_cons.mpr ⟨⟨fun _ _ _ => rfl, fun _ _ => trivial⟩, List.forall_mem_cons.mpr ⟨⟨fun _ _ _ => rfl, fun _ _ => trivial⟩, List.forall_mem_cons.mpr ⟨⟨fun _ _ _ => rfl, fun _ _ => trivial⟩, List.forall_mem_cons.mpr ⟨⟨fun _ _ _ => rfl, fun _ _ => trivial⟩, List.forall_mem_cons.mpr ⟨⟨fun _ _ _ => rfl, fun f z v hv r hr => by simp only [List.mem_cons, List.not_mem_nil, or_false] at hv; rcases hv with rfl | rfl | rfl <;> first | (cases hr; done) | (cases hr; constructor <;> omega)⟩, List.forall_mem_cons.mpr ⟨⟨fun _ _ _ => rfl, fun _ _ => trivial⟩, List.forall_mem_cons.mpr ⟨⟨fun _ _ _ => rfl, fun _ _ => trivial⟩, List.forall_mem_cons.mpr ⟨⟨fun _ _ _ => rfl, fun f z v hv r hr => by simp only [List.mem_cons, List.not_mem_nil, or_false] at hv; rcases hv with rfl | rfl | rfl | rfl | rfl | rfl | rfl <;> first | (cases hr; done) | (cases hr; constructor <;> omega)⟩, List.forall_mem_cons.mpr ⟨⟨fun _ _ _ => rfl, fun f z v hv r hr => by simp only [List.mem_cons, List.not_mem_nil, or_false] at hv; rcases hv with rfl | rfl | rfl | rfl <;> first | (cases hr; done) | (cases hr; constructor <;> omega)⟩, List.forall_mem_cons.mpr ⟨⟨fun _ _ _ => rfl, fun _ _ => trivial⟩, List.forall_mem_cons.mpr ⟨⟨fun _ _ _ => rfl, fun _ _ => trivial⟩, fun _ h => absurd h List.not_mem_nil⟩⟩⟩⟩⟩⟩⟩⟩⟩⟩⟩⟩⟩⟩⟩⟩⟩⟩⟩
def o_Fa7 : List ((Nat → Int) → Int → o_C) := [
  fun f c => .inl (0, 6, .inl (fun j => o_I (f j))),
  fun f c => .inr (3, [.int (o_I (f 0)), .ref 135, .ref 136, .ref 137, .ref 138, .ref 139]),
  fun f c => .inl (0, 8, .inl (fun j => o_I (f j))),
  fun f c => .inl (0, 8, .inl (fun j => o_I (f j))),
  fun f c => .inl (0, 8, .inl (fun j => o_I (f j))),
  fun f c => .inl (0, 8, .inl (fun j => o_I (f j))),
  fun f c => .inl (1, 8, .inl (fun j => o_I (f j))),
  fun f c => .inr (4, [.int (o_I (f 0)), .ref 141, .ref 142]),
  fun f c => .inl (0, 8, .inl (fun j => o_I (f j))),
  fun f c => .inl (0, 8, .inl (fun j => o_I (f j))),
  fun f c => .inr (1, [.ref 144, .ref 148, .ref 154, .int (o_I (f 3)), .int (o_I (f 4)), .int (o_I (f 5)), .int (o_I (f 6))]),
  fun f c => .inr (2, [.int (o_I (f 0)), .ref 145, .ref 146, .ref 147]),
  fun f c => .inl (0, 6, .inl (fun j => o_I (f j))),
  fun f c => .inl (0, 6, .inl (fun j => o_I (f j))),
  fun f c => .inl (0, 6, .inl (fun j => o_I (f j))),
  fun f c => .inr (3, [.int (o_I (f 0)), .ref 149, .ref 150, .ref 151, .ref 152, .ref 153]),
  fun f c => .inl (0, 8, .inl (fun j => o_I (f j))),
  fun f c => .inl (0, 8, .inl (fun j => o_I (f j))),
  fun f c => .inl (0, 8, .inl (fun j => o_I (f j)))]
set_option maxRecDepth 100000 in
set_option maxHeartbeats 4000000 in
theorem o_Fa7_ok : ∀ F ∈ o_Fa7, o_P9 F := List.forall_mem_cons.mpr ⟨⟨fun _ _ _ => rfl, fun _ _ => trivial⟩, List.forall_mem_cons.mpr ⟨⟨fun _ _ _ => rfl, fun f z v hv r hr => by simp only [List.mem_cons, List.not_mem_nil, or_false] at hv; rcases hv with rfl | rfl | rfl | rfl | rfl | rfl <;> first | (cases hr; done) | (cases hr; constructor <;> omega)⟩, List.forall_mem_cons.mpr ⟨⟨fun _ _ _ => rfl, fun _ _ => trivial⟩, List.forall_mem_cons.mpr ⟨⟨fun _ _ _ => rfl, fun _ _ => trivial⟩, List.forall_mem_cons.mpr ⟨⟨fun _ _ _ => rfl, fun _ _ => trivial⟩, List.forall_mem_cons.mpr ⟨⟨fun _ _ _ => rfl, fun _ _ => trivial⟩, List.forall_mem_cons.mpr ⟨⟨fun _ _ _ => rfl, fun _ _ => trivial⟩, List.forall_mem_cons.mpr ⟨⟨fun _ _ _ => rfl, fun f z v hv r hr => by simp only [List.mem_cons, List.not_mem_nil, or_false] at hv; rcases hv with rfl | rfl | rfl <;> first | (cases hr; done) | (cases hr; constructor <;> omega)⟩, List.forall_mem_cons.mpr ⟨⟨fun _ _ _ => rfl, fun _ _ => trivial⟩, List.forall_mem_cons.mpr ⟨⟨fun _ _ _ => rfl, fun _ _ => trivial⟩, List.forall_mem_cons.mpr ⟨⟨fun _ _ _ => rfl, fun f z v hv r hr => by simp only [List.mem_cons, List.not_mem_nil, or_false] at hv; rcases hv with rfl | rfl | rfl | rfl | rfl | rfl | rfl <;> first | (cases hr; done) | (cases hr; constructor <;> omega)⟩, List.forall_mem_cons.mpr ⟨⟨fun _ _ _ => rfl, fun f z v hv r hr => by simp only [List.mem_cons, List.not_mem_nil, or_false] at hv; rcases hv with rfl | rfl | rfl | rfl <;> first | (cases hr; done) | (cases hr; constructor <;> omega)⟩, List.forall_mem_cons.mpr ⟨⟨fun _ _ _ => rfl, fun _ _ => trivial⟩, List.forall_mem_cons.mpr ⟨⟨fun _ _ _ => rfl, fun _ _ => trivial⟩, List.forall_mem_cons.mpr ⟨⟨fun _ _ _ => rfl, fun _ _ => trivial⟩, List.forall_mem_cons.mpr ⟨⟨fun _ _ _ => rfl, fun f z v hv r hr => by simp only [List.mem_cons, List.not_mem_nil, or_false] at hv; rcases hv with rfl | rfl | rfl | rfl | rfl | rfl <;> first | (cases hr; done) | (cases hr; constructor <;> omega)⟩, List.forall_mem_cons.mpr ⟨⟨fun _ _ _ => rfl, fun _ _ => trivial⟩, List.forall_mem_cons.mpr ⟨⟨fun _ _ _ => rfl, fun _ _ => trivial⟩, List.forall_mem_cons.mpr ⟨⟨fun _ _ _ => rfl, fun _ _ => trivial⟩, fun _ h => absurd h List.not_mem_nil⟩⟩⟩⟩⟩⟩⟩⟩⟩⟩⟩⟩⟩⟩⟩⟩⟩⟩⟩
def o_Fa8 : List ((Nat → Int) → Int → o_C) := [
  fun f c => .inl (0, 8, .inl (fun j => o_I (f j))),
  fun f c => .inl (1, 8, .inl (fun j => o_I (f j))),
  fun f c => .inr (4, [.int (o_I (f 0)), .ref 155, .ref 156]),
  fun f c => .inl (0, 8, .inl (fun j => o_I (f j))),
  fun f c => .inl (0, 8, .inl (fun j => o_I (f j))),
  fun f c => .inr (6, [.ref 158]),
  fun f c => .inl (0, 25, .inl (fun j => o_I (f j))),
  fun f c => .inr (7, [.ref 160, .ref 161, .ref 162, .int (o_I (f 3))]),
  fun f c => .inl (0, 6, .inl (fun j => o_I (f j))),
  fun f c => .inl (0, 6, .inl (fun j => o_I (f j))),
  fun f c => .inl (1, 6, .inl (fun j => o_I (f j))),
  fun f c => .inr (8, [.ref 164, .ref 165, .int (o_I (f 2)), .int (o_I (f 3)), .int (o_I (f 4))]),
  fun f c => .inl (2, 60, .inl (fun j => o_I (f j))),
  fun f c => .inl (6, 12, .inr (.inr (.inr (.inr (fun j => some (if j < 12 then 166 + 2 * j else 0)))))),
  fun f c => .inr (9, [.ref (1000000 + (f 0).toNat), .ref 167]),
  fun f c => .inl (0, 3, .inl (fun j => o_I (f j))),
  fun f c => .inr (9, [.ref (1000000 + (f 0).toNat), .ref 169]),
  fun f c => .inl (0, 3, .inl (fun j => o_I (f j))),
  fun f c => .inr (9, [.ref (1000000 + (f 0).toNat), .ref 171])]
set_option maxRecDepth 100000 in
set_option maxHeartbeats 4000000 in
theorem o_Fa8_ok : ∀ F ∈ o_Fa8, o_P9 F := List.forall_mem_cons.mpr ⟨⟨fun _ _ _ => rfl, fun _ _ => trivial⟩, List.forall_mem_cons.mpr ⟨⟨fun _ _ _ => rfl, fun _ _ => trivial⟩, List.forall_mem_cons.mpr ⟨⟨fun _ _ _ => rfl, fun f z v hv r hr => by simp only [List.mem_cons, List.not_mem_nil, or_false] at hv; rcases hv with rfl | rfl | rfl <;> first | (cases hr; done) | (cases hr; constructor <;> omega)⟩, List.forall_mem_cons.mpr ⟨⟨fun _ _ _ => rfl, fun _ _ => trivial⟩, List.forall_mem_cons.mpr ⟨⟨fun _ _ _ => rfl, fun _ _ => trivial⟩, List.forall_mem_cons.mpr ⟨⟨fun _ _ _ => rfl, fun f z v hv r hr => by simp only [List.mem_cons, List.not_mem_nil, or_false] at hv; rcases hv with rfl <;> first | (cases hr; done) | (cases hr; constructor <;> omega)⟩, List.forall_mem_cons.mpr ⟨⟨fun _ _ _ => rfl, fun _ _ => trivial⟩, List.forall_mem_cons.mpr ⟨⟨fun _ _ _ => rfl, fun f z v hv r hr => by simp only [List.mem_cons, List.not_mem_nil, or_false] at hv; rcases hv with rfl | rfl | rfl | rfl <;> first | (cases hr; done) | (cases hr; constructor <;> omega)⟩, List.forall_mem_cons.mpr ⟨⟨fun _ _ _ => rfl, fun _ _ => trivial⟩, List.forall_mem_cons.mpr ⟨⟨fun _ _ _ => rfl, fun _ _ => trivial⟩, List.forall_mem_cons.mpr ⟨⟨fun _ _ _ => rfl, fun _ _ => trivial⟩, List.forall_mem_cons.mpr ⟨⟨fun _ _ _ => rfl, fun f z v hv r hr => by simp only [List.mem_cons, List.not_mem_nil, or_false] at hv; rcases hv with rfl | rfl | rfl | rfl | rfl <;> first | (cases hr; done) | (cases hr; constructor <;> omega)⟩, List.forall_mem_cons.mpr ⟨⟨fun _ _ _ => rfl, fun _ _ => trivial⟩, List.forall_mem_cons.mpr ⟨⟨fun _ _ _ => rfl, fun f z j r hr => by have hr := Option.some.inj hr; split at hr <;> (subst hr; constructor <;> omega)⟩, List.forall_mem_cons.mpr ⟨⟨fun _ _ _ => rfl, fun f z v hv r hr => by simp only [List.mem_cons, List.not_mem_nil, or_false] at hv; rcases hv with rfl | rfl <;> first | (cases hr; done) | (cases hr; constructor <;> omega)⟩, List.forall_mem_cons.mpr ⟨⟨fun _ _ _ => rfl, fun _ _ => trivial⟩, List.forall_mem_cons.mpr ⟨⟨fun _ _ _ => rfl, fun f z v hv r hr => by simp only [List.mem_cons, List.not_mem_nil, or_false] at hv; rcases hv with rfl | rfl <;> first | (cases hr; done) | (cases hr; constructor <;> omega)⟩, List.forall_mem_cons.mpr ⟨⟨fun _ _ _ => rfl, fun _ _ => trivial⟩, List.forall_mem_cons.mpr ⟨⟨fun _ _ _ => rfl, fun f z v hv r hr => by simp only [List.mem_cons, List.not_mem_nil, or_false] at hv; rcases hv with rfl | rfl <;> first | (cases hr; done) | (cases hr; constructor <;> omega)⟩, fun _ h => absurd h List.not_mem_nil⟩⟩⟩⟩⟩⟩⟩⟩⟩⟩⟩⟩⟩⟩⟩⟩⟩⟩⟩
def o_Fa9 : List ((Nat → Int) → Int → o_C) := [
  fun f c => .inl (0, 3, .inl (fun j => o_I (f j))),
  fun f c => .inr (9, [.ref (1000000 + (f 0).toNat), .ref 173]),
  fun f c => .inl (0, 3, .inl (fun j => o_I (f j))),
  fun f c => .inr (9, [.ref (1000000 + (f 0).toNat), .ref 175]),
  fun f c => .inl (0, 3, .inl (fun j => o_I (f j))),
  fun f c => .inr (9, [.ref (1000000 + (f 0).toNat), .ref 177]),
  fun f c => .inl (0, 3, .inl (fun j => o_I (f j))),
  fun f c => .inr (9, [.ref (1000000 + (f 0).toNat), .ref 179]),
  fun f c => .inl (0, 3, .inl (fun j => o_I (f j))),
  fun f c => .inr (9, [.ref (1000000 + (f 0).toNat), .ref 181]),
  fun f c => .inl (0, 3, .inl (fun j => o_I (f j))),
  fun f c => .inr (9, [.ref (1000000 + (f 0).toNat), .ref 183]),
  fun f c => .inl (0, 3, .inl (fun j => o_I (f j))),
  fun f c => .inr (9, [.ref (1000000 + (f 0).toNat), .ref 185]),
  fun f c => .inl (0, 3, .inl (fun j => o_I (f j))),
  fun f c => .inr (9, [.ref (1000000 + (f 0).toNat), .ref 187]),
  fun f c => .inl (0, 3, .inl (fun j => o_I (f j))),
  fun f c => .inr (9, [.ref (1000000 + (f 0).toNat), .ref 189]),
  fun f c => .inl (0, 3, .inl (fun j => o_I (f j)))]
set_option maxRecDepth 100000 in
set_option maxHeartbeats 4000000 in
theorem o_Fa9_ok : ∀ F ∈ o_Fa9, o_P9 F := List.forall_mem_cons.mpr ⟨⟨fun _ _ _ => rfl, fun _ _ => trivial⟩, List.forall_mem_cons.mpr ⟨⟨fun _ _ _ => rfl, fun f z v hv r hr => by simp only [List.mem_cons, List.not_mem_nil, or_false] at hv; rcases hv with rfl | rfl <;> first | (cases hr; done) | (cases hr; constructor <;> omega)⟩, List.forall_mem_cons.mpr ⟨⟨fun _ _ _ => rfl, fun _ _ => trivial⟩, List.forall_mem_cons.mpr ⟨⟨fun _ _ _ => rfl, fun f z v hv r hr => by simp only [List.mem_cons, List.not_mem_nil, or_false] at hv; rcases hv with rfl | rfl <;> first | (cases hr; done) | (cases hr; constructor <;> omega)⟩, List.forall_mem_cons.mpr ⟨⟨fun _ _ _ => rfl, fun _ _ => trivial⟩, List.forall_mem_cons.mpr ⟨⟨fun _ _ _ => rfl, fun f z v hv r hr => by simp only [List.mem_cons, List.not_mem_nil, or_false] at hv; rcases hv with rfl | rfl <;> first | (cases hr; done) | (cases hr; constructor <;> omega)⟩, List.forall_mem_cons.mpr ⟨⟨fun _ _ _ => rfl, fun _ _ => trivial⟩, List.forall_mem_cons.mpr ⟨⟨fun _ _ _ => rfl, fun f z v hv r hr => by simp only [List.mem_cons, List.not_mem_nil, or_false] at hv; rcases hv with rfl | rfl <;> first | (cases hr; done) | (cases hr; constructor <;> omega)⟩, List.forall_mem_cons.mpr ⟨⟨fun _ _ _ => rfl, fun _ _ => trivial⟩, List.forall_mem_cons.mpr ⟨⟨fun _ _ _ => rfl, fun f z v hv r hr => by simp only [List.mem_cons, List.not_mem_nil, or_false] at hv; rcases hv with rfl | rfl <;> first | (cases hr; done) | (cases hr; constructor <;> omega)⟩, List.forall_mem_cons.mpr ⟨⟨fun _ _ _ => rfl, fun _ _ => trivial⟩, List.forall_mem_cons.mpr ⟨⟨fun _ _ _ => rfl, fun f z v hv r hr => by simp only [List.mem_cons, List.not_mem_nil, or_false] at hv; rcases hv with rfl | rfl <;> first | (cases hr; done) | (cases hr; constructor <;> omega)⟩, List.forall_mem_cons.mpr ⟨⟨fun _ _ _ => rfl, fun _ _ => trivial⟩, List.forall_mem_cons.mpr ⟨⟨fun _ _ _ => rfl, fun f z v hv r hr => by simp only [List.mem_cons, List.not_mem_nil, or_false] at hv; rcases hv with rfl | rfl <;> first | (cases hr; done) | (cases hr; constructor <;> omega)⟩, List.forall_mem_cons.mpr ⟨⟨fun _ _ _ => rfl, fun _ _ => trivial⟩, List.forall_mem_cons.mpr ⟨⟨fun _ _ _ => rfl, fun f z v hv r hr => by simp only [List.mem_cons, List.not_mem_nil, or_false] at hv; rcases hv with rfl | rfl <;> first | (cases hr; done) | (cases hr; constructor <;> omega)⟩, List.forall_mem_cons.mpr ⟨⟨fun _ _ _ => rfl, fun _ _ => trivial⟩, List.forall_mem_cons.mpr ⟨⟨fun _ _ _ => rfl, fun f z v hv r hr => by simp only [List.mem_cons, List.not_mem_nil, or_false] at hv; rcases hv with rfl | rfl <;> first | (cases hr; done) | (cases hr; constructor <;> omega)⟩, List.forall_mem_cons.mpr ⟨⟨fun _ _ _ => rfl, fun _ _ => trivial⟩, fun _ h => absurd h List.not_mem_nil⟩⟩⟩⟩⟩⟩⟩⟩⟩⟩⟩⟩⟩⟩⟩⟩⟩⟩⟩
def o_Fa10 : List ((Nat → Int) → Int → o_C) := []
theorem o_Fa10_ok : ∀ F ∈ o_Fa10, o_P9 F := fun _ h => absurd h List.not_mem_nil
def o_Fm : List ((Nat → Int) → Int → o_C) := [
  fun f c => .inr (11, [.ref 191, .int (o_I (f 1)), .int (o_I (f 2)), .int (o_I (f 3))]),
  fun f c => .inl (3, c.toNat, .inl (fun j => o_I (f j)))]
def o_Fl : List ((Nat → Int) → Int → o_C) := (o_Fa0 ++ (o_Fa1 ++ (o_Fa2 ++ (o_Fa3 ++ (o_Fa4 ++ (o_Fa5 ++ (o_Fa6 ++ (o_Fa7 ++ (o_Fa8 ++ o_Fa9)))))))))
set_option maxRecDepth 100000 in
set_option maxHeartbeats 4000000 in
theorem o_Fl_ok : ∀ F ∈ o_Fl, o_P9 F := List.forall_mem_append.mpr ⟨o_Fa0_ok, List.forall_mem_append.mpr ⟨o_Fa1_ok, List.forall_mem_append.mpr ⟨o_Fa2_ok, List.forall_mem_append.mpr ⟨o_Fa3_ok, List.forall_mem_append.mpr ⟨o_Fa4_ok, List.forall_mem_append.mpr ⟨o_Fa5_ok, List.forall_mem_append.mpr ⟨o_Fa6_ok, List.forall_mem_append.mpr ⟨o_Fa7_ok, List.forall_mem_append.mpr ⟨o_Fa8_ok, o_Fa9_ok⟩⟩⟩⟩⟩⟩⟩⟩⟩
set_option maxRecDepth 100000 in
set_option maxHeartbeats 4000000 in
theorem o_F_cut : o_F = o_Fl ++ (o_Fm ++ o_Fa10) := rfl
set_option maxRecDepth 100000 in
set_option maxHeartbeats 4000000 in
theorem o_F_ok {k : Nat} (hk : k < 192) (h0 : k ≠ 190) (h1 : k ≠ 191) : o_P9 (o_FF k) := by
  have la : o_Fl.length = 190 := rfl
  have lm : o_Fm.length = 2 := rfl
  have lc : o_Fa10.length = 0 := rfl
  show o_P9 (o_F.getD k _)
  rw [o_F_cut, List.getD_eq_getElem?_getD]
  rcases Nat.lt_or_ge k 190 with q | q
  · rw [List.getElem?_append_left (by omega), List.getElem?_eq_getElem (by omega)]
    exact o_Fl_ok _ (List.getElem_mem _)
  · rw [List.getElem?_append_right (by omega), List.getElem?_append_right (by omega), List.getElem?_eq_getElem (by omega)]
    exact o_Fa10_ok _ (List.getElem_mem _)
theorem o_nr9_nr {c : o_C} (hc : o_nr9 c) : o_nrC 192 c := by
  rcases c with ⟨t, len, f⟩ | ⟨ci, fs⟩
  · rcases f with f | f | f | f | f
    · exact trivial
    · exact trivial
    · exact trivial
    · exact trivial
    · exact fun j r hr => (hc j r hr).2
  · exact fun v hv r hr => (hc v hv r hr).2
theorem o_mem_nr (g : Nat → Nat → Int) (k : Nat) (hk : k < 192) : o_nrC 192 (o_mem g k) := by
  by_cases h0 : k = 190
  · subst h0
    show ∀ v ∈ ([.ref 191, .int (o_I (g 190 1)), .int (o_I (g 190 2)), .int (o_I (g 190 3))] : List Value), ∀ r : Nat, v = .ref r → r ≠ 192
    intro v hv r hr
    simp only [List.mem_cons, List.not_mem_nil, or_false] at hv
    rcases hv with rfl | rfl | rfl | rfl <;> first | (cases hr; done) | (cases hr; decide)
  · by_cases h1 : k = 191
    · subst h1
      exact trivial
    · exact o_nr9_nr ((o_F_ok hk h0 h1).2 _ _)
theorem o_rC_9 {ad ad' : Nat → Nat} {cy : Nat → ClassId} {c : o_C} (hc : o_nr9 c) (e : ∀ k, k ≠ 191 → k ≠ 192 → ad' k = ad k) : o_rC ad' cy c = o_rC ad cy c := by
  rcases c with ⟨t, len, f⟩ | ⟨ci, fs⟩
  · rcases f with f | f | f | f | f
    · rfl
    · rfl
    · rfl
    · rfl
    · have : (fun j => (f j).map ad') = fun j => (f j).map ad := by
        funext j
        cases hf : f j with
        | none => rfl
        | some r => exact congrArg some (e r (hc j r hf).1 (hc j r hf).2)
      show Sum.inl (cy t, len, Sum.inr (Sum.inr (Sum.inr (Sum.inr (fun j => (f j).map ad'))))) = Sum.inl (cy t, len, Sum.inr (Sum.inr (Sum.inr (Sum.inr (fun j => (f j).map ad)))))
      rw [this]
  · show Sum.inr (ci, fs.map (o_rV ad')) = Sum.inr (ci, fs.map (o_rV ad))
    congr 2
    refine List.map_congr_left fun v hv => ?_
    cases v with
    | ref r => exact congrArg Value.ref (e r (hc _ hv r rfl).1 (hc _ hv r rfl).2)
    | _ => rfl
/-- the texts that the builder holds: Latin letters below 128 -/
def o_sb (g : Nat → Nat → Int) (L : List Int) : Prop := g 190 1 = 0 ∧ (∃ c : Nat, g 190 9 = c ∧ c ≤ 220 ∧ L.length ≤ c ∧ ∀ j, j < c → 0 ≤ g 191 j ∧ g 191 j < 128) ∧ g 190 3 = L.length ∧ ∀ j, j < L.length → g 191 j = L.getD j 0
def o_cB : Nat → Prop := fun a => a = 190 ∨ a = 191
def o_a1 : Nat → Prop := fun k => k = 191 ∨ k = 192
theorem o_fin (p : Int → Prop) (h : ∀ k : Fin 128, p ((k : Nat) : Int)) (z : Int) (h0 : 0 ≤ z) (h1 : z < 128) : p z := by
  have := h ⟨z.toNat, by omega⟩
  simpa [Int.toNat_of_nonneg h0] using this
theorem o_fb (z : Int) (h0 : 0 ≤ z) (h1 : z < 128) : fits .byte (.int (o_I z)) = true := o_fin (fun z => fits .byte (.int (o_I z)) = true) (by decide +kernel) z h0 h1
theorem o_nb (z : Int) (h0 : 0 ≤ z) (h1 : z < 128) : vp_nar .byte (o_I z) = o_I z := o_fin (fun z => vp_nar .byte (o_I z) = o_I z) (by decide +kernel) z h0 h1
theorem o_i2bN (z : Int) (h0 : 0 ≤ z) (h1 : z < 128) : (o_I z).toInt8.toInt32 = o_I z := o_fin (fun z => (o_I z).toInt8.toInt32 = o_I z) (by decide +kernel) z h0 h1
theorem o_an (z : Int) (h0 : 0 ≤ z) (h1 : z < 128) : o_I z &&& o_I 255 = o_I z := o_fin (fun z => o_I z &&& o_I 255 = o_I z) (by decide +kernel) z h0 h1
theorem o_i2cN (z : Int) (h0 : 0 ≤ z) (h1 : z < 128) : ((o_I z).toUInt32 % 65536).toInt32 = o_I z := o_fin (fun z => ((o_I z).toUInt32 % 65536).toInt32 = o_I z) (by decide +kernel) z h0 h1
theorem o_shl0 (x : Int32) : x <<< (o_I 0 &&& 31) = x := by
  rw [show (o_I 0 &&& 31 : Int32) = 0 by decide]; first | exact sb_shl0 x | simp
theorem o_shr0 (x : Int32) : x >>> (o_I 0 &&& 31) = x := by
  rw [show (o_I 0 &&& 31 : Int32) = 0 by decide]; first | exact sb_shr0 x | simp
theorem o_shl2 : o_I 2 <<< (o_I 0 &&& 31) = o_I 2 := o_shl0 _
theorem z_C (Z : o_Z) (ad : Nat → Nat) (s : State) (E : o_Ex Z ad s) : va_Z "java/lang/String" "COMPACT_STRINGS" "Z" (o_rV ad (.int (o_I 1))) (o_A Z) s s.heap := E.2.2.2.2.1.1.2.2
section OB
variable {l : Launch} {M : o_M} {d : Nat} {al : Nat → Prop} {post : o_P} {pc : Nat} {ls : List (Nat × Value)} {st : List Value} {n : Nat} {h : Nat → o_C} {mc ms : Nat} {g : Nat → Nat → Int}
theorem o_alenN {b t len : Nat} {f : (Nat → Int32) ⊕ (Nat → Int64) ⊕ (Nat → UInt32) ⊕ (Nat → UInt64) ⊕ (Nat → Option Nat)} {ty : FieldType} (hd : decode M.2.1 pc = .ok (.arraylength, 1)) (hb : b < n) (hh : h b = .inl (t, len, f)) (ht : o_tyL[t]? = some ty) (k9 : o_V l M d al post (pc + 1) ls (.int (o_I (len : Int)) :: st) n h mc ms) : o_V l M d al post pc ls (.ref b :: st) n h mc ms := o_alen hd hb hh ht k9
theorem o_baE {b len : Nat} {i z : Int} (hd : decode M.2.1 pc = .ok (.bastore, 1)) (hh : o_mem g b = .inl (3, len, .inl (fun j => o_I (g b j)))) (hb : b < n) (hle : len ≤ 2147483647) (h0 : 0 ≤ i) (h1 : i < len) (hz0 : 0 ≤ z) (hz1 : z < 128) (hc : ∀ f' : Nat → Int, (Sum.inl (3, len, .inl (fun j => o_I (f' j))) : o_C) = o_FF b f' (g 190 9)) (h9 : b ≠ 190) (k9 : ∀ g1, g1 = o_e g b i.toNat z → o_V l M d al post (pc + 1) ls st n (o_mem g1) mc ms) : o_V l M d al post pc ls (.int (o_I z) :: .int (o_I i) :: .ref b :: st) n (o_mem g) mc ms :=
  o_bast hd hb hh hle h0 h1 (o_nb z hz0 hz1) (o_mw (hc _) (by rw [o_ew]; unfold o_e; exact if_neg (fun q => h9 q.1.symm))) (by rw [o_ew]; exact k9 _ rfl)
theorem o_copyb {index a0 b len0 len1 : Nat} {f g : Nat → Int} {sp dp m0 : Int} {h' : Nat → o_C} (hd : decode M.2.1 pc = .ok (.invokestatic index, 3)) (hw : Cond.methodLink M.1 index arraycopyName ∈ o_gW) (hw1 : Cond.native arraycopyName ∈ o_gW) (hw2 : Cond.static arraycopyName ∈ o_gW) (hw3 : Cond.initialized "java/lang/System" ∈ o_gW) (ha0 : a0 < n) (hb : b < n) (hh0 : h a0 = .inl (3, len0, .inl (fun j => o_I (f j)))) (hh : h b = .inl (3, len1, .inl (fun j => o_I (g j)))) (hl0 : len0 ≤ 2147483647) (hl1 : len1 ≤ 2147483647) (h0 : 0 ≤ sp) (h1 : 0 ≤ dp) (h2 : 0 ≤ m0) (h3 : sp + m0 ≤ len0) (h4 : dp + m0 ≤ len1) (hfit : ∀ i : Nat, (i : Int) < m0 → 0 ≤ f (sp.toNat + i) ∧ f (sp.toNat + i) < 128) (hcat : (st.map fun v => v.category).sum ≤ 20) (e9 : o_up h b (.inl (3, len1, .inl (fun j => o_I (va_cpy f g sp.toNat dp.toNat m0.toNat j)))) = h') (k9 : o_V l M d al post (pc + 3) ls st n h' mc ms) : o_V l M d al post pc ls (.int (o_I m0) :: .int (o_I dp) :: .ref b :: .int (o_I sp) :: .ref a0 :: st) n h mc ms := by
  intro Z p e R s m args below meth c ad H locs cells slots MC MS la Q X E S P a1 a2 a3 a4 L K
  have r1 : o_R sp := ⟨by omega, by omega⟩
  have r2 : o_R dp := ⟨by omega, by omega⟩
  have r3 : o_R m0 := ⟨by omega, by omega⟩
  have b1 : (o_I sp).toNatClampNeg + (o_I m0).toNatClampNeg ≤ len0 := by rw [o_clamp r1, o_clamp r3]; omega
  have b2 : (o_I dp).toNatClampNeg + (o_I m0).toNatClampNeg ≤ len1 := by rw [o_clamp r2, o_clamp r3]; omega
  have b3 : 1 ≤ R.frames := by have := X.2.2.2.2.2.2.2.2.2.1; omega
  have b5 : nativeFrameWords "java/lang/System" "arraycopy" 5 ≤ 60 := by decide +kernel
  have b4 : ((st.map (o_rV ad)).map fun v => v.category).sum + (nativeFrameWords "java/lang/System" "arraycopy" 5 + 11) ≤ R.locals := by
    have := X.2.2.2.2.2.2.2.2.2.2
    rw [o_cats]
    omega
  refine va_copyi (D := Z.2.1) (cl := o_cl) (tys := o_tys Z) X.1 X.2.1 (X.2.2.2.2.1.trans L.1.symm) X.2.2.1 (X.2.2.2.1 _ hw) (X.2.2.2.1 _ hw1) (X.2.2.2.1 _ hw2) (X.2.2.2.1 _ hw3) E.2.1 P.1 P.2 S a0 b 3 3 (o_rW_get ha0 hh0) (o_rW_get hb hh) (o_tys_get rfl) (o_tys_get rfl) rfl (fun q => by have := (o_lt r1 o_R0).mp q; omega) (fun q => by have := (o_lt r2 o_R0).mp q; omega) (fun q => by have := (o_lt r3 o_R0).mp q; omega) b1 b2 (fun i hi => by
    rw [o_clamp r3] at hi
    have := hfit i (by omega)
    rw [o_clamp r1]
    exact o_fb _ this.1 this.2) b3 b4 hd (fun H1 locs1 hP hD hS => ?_)
  exact k9 Z p e R s m args below meth c ad H1 locs1 cells slots MC MS la Q X E hS (o_Rp.set (by rw [o_clamp r1, o_clamp r2, o_clamp r3, o_cpI]; rfl) e9 hP hD) a1 a2 a3 a4 L K
end OB
set_option maxRecDepth 100000 in
set_option maxHeartbeats 4000000 in
/-- newLength(a, b, c) -/
theorem ct_J8_newLength_cabcc {l : Launch} (hl : l.stackTraces = false) (d : Nat) (n : Nat) (h : Nat → o_C) (a b c : Int) (ha : 0 ≤ a ∧ a ≤ 100000) (hb : -100000 ≤ b ∧ b ≤ 100000) (hc : 1 ≤ c ∧ c ≤ 100000) : o_Ct l yJ8_newLength_cabcc wJ8_newLength_cabcc (d + 1) o_no [.int (o_I a), .int (o_I b), .int (o_I c)] n (h) 0 0 (o_is (some (.int (o_I (a + max b c)))) n h) := by
  refine o_Ct.ofV hl mJ8_newLength_cabcc (by decide +kernel) rfl rfl rfl (Nat.le_of_ble_eq_true rfl) ?_
  refine o_iload_n dJ8_newLength_cabcc_0 rfl ?_
  refine o_iload_n dJ8_newLength_cabcc_1 rfl ?_
  refine o_iload_n dJ8_newLength_cabcc_2 rfl ?_
  refine o_mmax dJ8_newLength_cabcc_3 ml_J8_194 o_maxS.1 o_maxS.2.1 o_maxS.2.2 ⟨by omega, by omega⟩ ⟨by omega, by omega⟩ (Nat.le_of_ble_eq_true rfl) ?_
  refine o_iadd dJ8_newLength_cabcc_6 ?_
  refine o_istore_n dJ8_newLength_cabcc_7 (by decide) ?_
  refine o_iconst dJ8_newLength_cabcc_8 ?_
  refine o_iload_n dJ8_newLength_cabcc_9 rfl ?_
  refine o_icmp_ge (tgt := 21) dJ8_newLength_cabcc_10 (by decide) ⟨by omega, by omega⟩ ⟨by omega, by omega⟩ (fun c_10 => ?_) (fun c_10 => ?_)
  · skip
    exfalso
    omega
  · skip
    refine o_iload_n dJ8_newLength_cabcc_13 rfl ?_
    refine o_ldc (z := 2147483639) dJ8_newLength_cabcc_14 (o_gT (i := 1112) (by decide +kernel) rfl) ?_
    refine o_icmp_gt (tgt := 21) dJ8_newLength_cabcc_16 (by decide) ⟨by omega, by omega⟩ ⟨by omega, by omega⟩ (fun c_16 => ?_) (fun c_16 => ?_)
    · skip
      exfalso
      omega
    · skip
      refine o_iload_n dJ8_newLength_cabcc_19 rfl ?_
      refine o_ret1 dJ8_newLength_cabcc_20 trivial ?_
      exact ⟨rfl, rfl, rfl⟩
set_option maxRecDepth 100000 in
set_option maxHeartbeats 4000000 in
/-- newCapacity(q) -/
theorem ct_J5_newCapacity_0f7a4 {l : Launch} (hl : l.stackTraces = false) (d : Nat) (g : Nat → Nat → Int) (c : Nat) (h1 : g 190 1 = 0) (hc : g 190 9 = c) (hc2 : c ≤ 220) (q : Int) (hq : 0 ≤ q ∧ q ≤ 1000) : o_Ct l yJ5_newCapacity_0f7a4 wJ5_newCapacity_0f7a4 (d + 2) o_no [.ref 190, .int (o_I q)] o_N (o_mem g) 0 0 (o_is (some (.int (o_I (c + max (q - c) (c + 2))))) o_N (o_mem g)) := by
  refine o_Ct.ofV hl mJ5_newCapacity_0f7a4 (by decide +kernel) rfl rfl rfl (Nat.le_of_ble_eq_true rfl) ?_
  have e191 : o_mem g 191 = .inl (3, c, .inl (fun j => o_I (g 191 j))) := by rw [o_m191, hc, Int.toNat_natCast]
  refine o_aload_n dJ5_newCapacity_0f7a4_0 rfl ?_
  refine o_gf dJ5_newCapacity_0f7a4_1 fl_J5_15 rfl (by decide) rfl ?_
  refine o_alenN dJ5_newCapacity_0f7a4_4 (by decide) e191 rfl ?_
  refine o_istore_n dJ5_newCapacity_0f7a4_5 (by decide) ?_
  refine o_iload_n dJ5_newCapacity_0f7a4_6 rfl ?_
  refine o_aload_n dJ5_newCapacity_0f7a4_7 rfl ?_
  refine o_gf dJ5_newCapacity_0f7a4_8 fl_J5_22 rfl (by decide) rfl ?_
  rw [h1]
  refine o_ishl dJ5_newCapacity_0f7a4_11 ?_
  rw [o_shl0]
  refine o_istore_n dJ5_newCapacity_0f7a4_12 (by decide) ?_
  refine o_iload_n dJ5_newCapacity_0f7a4_13 rfl ?_
  refine o_iload_n dJ5_newCapacity_0f7a4_14 rfl ?_
  refine o_isub dJ5_newCapacity_0f7a4_15 ?_
  refine o_istore dJ5_newCapacity_0f7a4_16 (by decide) ?_
  refine o_iload_n dJ5_newCapacity_0f7a4_18 rfl ?_
  refine o_iload dJ5_newCapacity_0f7a4_19 rfl ?_
  refine o_iload_n dJ5_newCapacity_0f7a4_21 rfl ?_
  refine o_iconst dJ5_newCapacity_0f7a4_22 ?_
  refine o_aload_n dJ5_newCapacity_0f7a4_23 rfl ?_
  refine o_gf dJ5_newCapacity_0f7a4_24 fl_J5_22 rfl (by decide) rfl ?_
  rw [h1]
  refine o_ishl dJ5_newCapacity_0f7a4_27 ?_
  rw [o_shl0]
  refine o_iadd dJ5_newCapacity_0f7a4_28 ?_
  refine o_cS _ (ct_J8_newLength_cabcc hl d o_N (o_mem g) c (q - c) (c + 2) (by omega) (by omega) (by omega)) dJ5_newCapacity_0f7a4_29 ml_J5_114 ys_J8_newLength_cabcc rfl (by decide) (by omega) rfl (Nat.le_of_ble_eq_true rfl) ?_
  refine o_istore dJ5_newCapacity_0f7a4_32 (by decide) ?_
  refine o_iload dJ5_newCapacity_0f7a4_34 rfl ?_
  refine o_ldc (z := 2147483647) dJ5_newCapacity_0f7a4_36 (o_gT (i := 1116) (by decide +kernel) rfl) ?_
  refine o_icmp_ne (tgt := 51) dJ5_newCapacity_0f7a4_38 (by decide) ⟨by omega, by omega⟩ ⟨by omega, by omega⟩ (fun c_38 => ?_) (fun c_38 => ?_)
  · skip
    refine o_iload dJ5_newCapacity_0f7a4_51 rfl ?_
    refine o_aload_n dJ5_newCapacity_0f7a4_53 rfl ?_
    refine o_gf dJ5_newCapacity_0f7a4_54 fl_J5_22 rfl (by decide) rfl ?_
    rw [h1]
    refine o_ishr dJ5_newCapacity_0f7a4_57 ?_
    rw [o_shr0]
    refine o_ret1 dJ5_newCapacity_0f7a4_58 trivial ?_
    exact ⟨rfl, rfl, rfl⟩
  · skip
    exfalso
    omega
set_option maxRecDepth 100000 in
set_option maxHeartbeats 4000000 in
/-- copyOf(the builder's bytes, q) -/
theorem ct_J7_copyOf_9075b {l : Launch} (hl : l.stackTraces = false) (d : Nat) (g : Nat → Nat → Int) (c q : Nat) (hc : g 190 9 = c) (hb : ∀ j, j < c → 0 ≤ g 191 j ∧ g 191 j < 128) (hq : c < q) (hq2 : q ≤ 300) : o_Ct l yJ7_copyOf_9075b wJ7_copyOf_9075b (d + 1) (fun k => k = 192) [.ref 191, .int (o_I (q : Int))] o_N (o_mem g) 1 q (fun o n' h' => o = .inl (some (.ref 192)) ∧ n' = 193 ∧ h' = o_up (o_mem g) 192 (.inl (3, q, .inl (fun j => o_I (va_cpy (fun j => g 191 j) (fun _ => 0) 0 0 c j))))) := by
  refine o_Ct.ofV hl mJ7_copyOf_9075b (by decide +kernel) rfl rfl rfl (Nat.le_of_ble_eq_true rfl) ?_
  have e191 : o_mem g 191 = .inl (3, c, .inl (fun j => o_I (g 191 j))) := by rw [o_m191, hc, Int.toNat_natCast]
  refine o_iload_n dJ7_copyOf_9075b_0 rfl ?_
  refine o_aload_n dJ7_copyOf_9075b_1 rfl ?_
  refine o_alenN dJ7_copyOf_9075b_2 (by decide) e191 rfl ?_
  refine o_icmp_ne (tgt := 14) dJ7_copyOf_9075b_3 (by decide) ⟨by omega, by omega⟩ ⟨by omega, by omega⟩ (fun c_3 => ?_) (fun c_3 => ?_)
  · skip
    refine o_iload_n dJ7_copyOf_9075b_14 rfl ?_
    refine o_newaB (N := q) (t := 3) (x := (q, .inl (fun _ => o_I 0))) (o_mem_nr g) (by decide) rfl dJ7_copyOf_9075b_15 rfl rfl (o_gT (i := 306) (by decide +kernel) rfl) (fun _ => rfl) (fun _ => rfl) (by omega) ⟨fun x hx k hk => ?_, fun x hx k hk => ?_⟩ (Nat.le_refl _) (Nat.le_refl _) ?_
    · simp only [lv_args, List.mem_cons, List.not_mem_nil, or_false] at hx
      rcases hx with rfl | rfl
      · cases hk; decide
      · cases hk
    · cases hx
    refine o_astore_n dJ7_copyOf_9075b_17 (by decide) ?_
    refine o_aload_n dJ7_copyOf_9075b_18 rfl ?_
    refine o_iconst dJ7_copyOf_9075b_19 ?_
    refine o_aload_n dJ7_copyOf_9075b_20 rfl ?_
    refine o_iconst dJ7_copyOf_9075b_21 ?_
    refine o_aload_n dJ7_copyOf_9075b_22 rfl ?_
    refine o_alenN (f := .inl (fun j => o_I (g 191 j))) dJ7_copyOf_9075b_23 (by decide) (by show o_up _ _ _ _ = _; unfold o_up; rw [if_neg (by decide)]; exact e191) rfl ?_
    refine o_iload_n dJ7_copyOf_9075b_24 rfl ?_
    refine o_mmin dJ7_copyOf_9075b_25 ml_J7_304 o_minS.1 o_minS.2.1 o_minS.2.2 ⟨by omega, by omega⟩ ⟨by omega, by omega⟩ (Nat.le_of_ble_eq_true rfl) ?_
    rw [show min (c : Int) (q : Int) = c by omega]
    refine o_copyb (sp := 0) (dp := 0) (m0 := (c : Int)) dJ7_copyOf_9075b_28 (o_gT (i := 1128) (by decide +kernel) rfl) (o_gT (i := 1130) (by decide +kernel) rfl) (o_gT (i := 1129) (by decide +kernel) rfl) (o_gT (i := 30) (by decide +kernel) rfl) (by decide) (by decide) (by show o_up _ _ _ _ = _; unfold o_up; rw [if_neg (by decide)]; exact e191) rfl (by omega) (by omega) (by omega) (by omega) (by omega) (by omega) (by omega) (fun i hi => by have := hb i (by omega); simpa using this) (Nat.le_of_ble_eq_true rfl) rfl ?_
    refine o_aload_n dJ7_copyOf_9075b_31 rfl ?_
    refine o_ret1 dJ7_copyOf_9075b_32 (Or.inr ⟨_, rfl⟩) ?_
    refine ⟨rfl, rfl, ?_⟩
    funext k
    unfold o_up
    by_cases z : k = 192
    · rw [if_pos z, if_pos z]; simp
    · rw [if_neg z, if_neg z, if_neg z]
  · skip
    exfalso
    omega
