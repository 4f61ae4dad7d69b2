def enC (cy : Nat → ClassId) : bN := fun q z k => match k with
  | 0 => .inr (5, [.ref (q 1), .ref (q 13), .ref (q 15), .ref (q 27), .int (z.1 6), .ref (q 29), .ref (q 32), .ref (q 55), .ref (q 57), .ref (q 65), .int (z.1 9), .int (z.1 10)])
  | 1 => .inr (0, [.int (z.1 0), .int (z.1 1), .int (z.1 2), .ref (q 2), .ref (q 3), .ref (q 7), .ref (q 8), .ref (q 9), .ref (q 10), .ref (q 11), .ref (q 12)])
  | 2 => .inl (cy 0, 3, .inl (z.2.1 2))
  | 3 => .inl (cy 3, 3, .inr (.inr (.inr (.inr (fun i => if i < 3 then some (q (4 + i)) else none)))))
  | 4 => .inl (cy 0, 10, .inl (z.2.1 4))
  | 5 => .inl (cy 0, 10, .inl (z.2.1 5))
  | 6 => .inl (cy 0, 10, .inl (z.2.1 6))
  | 7 => .inl (cy 0, 10, .inl (z.2.1 7))
  | 8 => .inl (cy 0, 10, .inl (z.2.1 8))
  | 9 => .inl (cy 0, 10, .inl (z.2.1 9))
  | 10 => .inl (cy 0, 10, .inl (z.2.1 10))
  | 11 => .inl (cy 0, 10, .inl (z.2.1 11))
  | 12 => .inl (cy 0, 10, .inl (z.2.1 12))
  | 13 => .inr (1, [.ref (q 1), .ref (q 14)])
  | 14 => .inl (cy 0, 10, .inl (z.2.1 14))
  | 15 => .inr (0, [.int (z.1 3), .int (z.1 4), .int (z.1 5), .ref (q 16), .ref (q 17), .ref (q 21), .ref (q 22), .ref (q 23), .ref (q 24), .ref (q 25), .ref (q 26)])
  | 16 => .inl (cy 0, 3, .inl (z.2.1 16))
  | 17 => .inl (cy 3, 3, .inr (.inr (.inr (.inr (fun i => if i < 3 then some (q (18 + i)) else none)))))
  | 18 => .inl (cy 0, 10, .inl (z.2.1 18))
  | 19 => .inl (cy 0, 10, .inl (z.2.1 19))
  | 20 => .inl (cy 0, 10, .inl (z.2.1 20))
  | 21 => .inl (cy 0, 10, .inl (z.2.1 21))
  | 22 => .inl (cy 0, 10, .inl (z.2.1 22))
  | 23 => .inl (cy 0, 10, .inl (z.2.1 23))
  | 24 => .inl (cy 0, 10, .inl (z.2.1 24))
  | 25 => .inl (cy 0, 10, .inl (z.2.1 25))
  | 26 => .inl (cy 0, 10, .inl (z.2.1 26))
  | 27 => .inr (1, [.ref (q 15), .ref (q 28)])
  | 28 => .inl (cy 0, 10, .inl (z.2.1 28))
  | 29 => .inr (2, [.ref (q 30), .int (z.1 7), .ref (q 31)])
  | 30 => .inl (cy 0, 10, .inl (z.2.1 30))
  | 31 => .inl (cy 0, 11, .inl (z.2.1 31))
  | 32 => .inr (3, [.ref (q 1), .int (z.1 8), .ref (q 33), .ref (q 34), .ref (q 35), .ref (q 36), .ref (q 37), .ref (q 38), .ref (q 39), .ref (q 40), .ref (q 52)])
  | 33 => .inl (cy 0, 1024, .inl (z.2.1 33))
  | 34 => .inl (cy 2, 1024, .inl (z.2.1 34))
  | 35 => .inl (cy 0, 1024, .inl (z.2.1 35))
  | 36 => .inl (cy 0, 1024, .inl (z.2.1 36))
  | 37 => .inl (cy 0, 1024, .inl (z.2.1 37))
  | 38 => .inl (cy 0, 1024, .inl (z.2.1 38))
  | 39 => .inl (cy 0, 1024, .inl (z.2.1 39))
  | 40 => .inl (cy 4, 11, .inr (.inr (.inr (.inr (fun i => if i < 11 then some (q (41 + i)) else none)))))
  | 41 => .inl (cy 1, 1024, .inr (.inl (z.2.2 41)))
  | 42 => .inl (cy 1, 1024, .inr (.inl (z.2.2 42)))
  | 43 => .inl (cy 1, 1024, .inr (.inl (z.2.2 43)))
  | 44 => .inl (cy 1, 1024, .inr (.inl (z.2.2 44)))
  | 45 => .inl (cy 1, 1024, .inr (.inl (z.2.2 45)))
  | 46 => .inl (cy 1, 1024, .inr (.inl (z.2.2 46)))
  | 47 => .inl (cy 1, 1024, .inr (.inl (z.2.2 47)))
  | 48 => .inl (cy 1, 1024, .inr (.inl (z.2.2 48)))
  | 49 => .inl (cy 1, 1024, .inr (.inl (z.2.2 49)))
  | 50 => .inl (cy 1, 1024, .inr (.inl (z.2.2 50)))
  | 51 => .inl (cy 1, 1024, .inr (.inl (z.2.2 51)))
  | 52 => .inl (cy 4, 2, .inr (.inr (.inr (.inr (fun i => if i < 2 then some (q (53 + i)) else none)))))
  | 53 => .inl (cy 1, 1024, .inr (.inl (z.2.2 53)))
  | 54 => .inl (cy 1, 1024, .inr (.inl (z.2.2 54)))
  | 55 => .inr (1, [.ref (q 1), .ref (q 56)])
  | 56 => .inl (cy 0, 10, .inl (z.2.1 56))
  | 57 => .inr (4, [.ref (q 58), .ref (q 59), .ref (q 60)])
  | 58 => .inl (cy 0, 4, .inl (z.2.1 58))
  | 59 => .inl (cy 0, 4, .inl (z.2.1 59))
  | 60 => .inl (cy 3, 4, .inr (.inr (.inr (.inr (fun i => if i < 4 then some (q (61 + i)) else none)))))
  | 61 => .inl (cy 0, 40, .inl (z.2.1 61))
  | 62 => .inl (cy 0, 40, .inl (z.2.1 62))
  | 63 => .inl (cy 0, 40, .inl (z.2.1 63))
  | 64 => .inl (cy 0, 40, .inl (z.2.1 64))
  | 65 => .inl (cy 0, 20, .inl (z.2.1 65))
  | _ => .inl (cy 0, 0, .inl (fun _ => 0))
theorem enC_A (cy : Nat → ClassId) (q : Nat → Nat) (z : zS) (k : Nat) (f : Nat → Int32) : ∀ j, j < 66 → j ≠ k → enC cy q (upA z k f) j = enC cy q z j
  | 0, _, _ => rfl
  | 1, _, _ => rfl
  | 2, _, h => congrArg (fun g => (.inl (cy 0, 3, .inl g) : va_E)) (va_up_ne _ _ h)
  | 3, _, _ => rfl
  | 4, _, h => congrArg (fun g => (.inl (cy 0, 10, .inl g) : va_E)) (va_up_ne _ _ h)
  | 5, _, h => congrArg (fun g => (.inl (cy 0, 10, .inl g) : va_E)) (va_up_ne _ _ h)
  | 6, _, h => congrArg (fun g => (.inl (cy 0, 10, .inl g) : va_E)) (va_up_ne _ _ h)
  | 7, _, h => congrArg (fun g => (.inl (cy 0, 10, .inl g) : va_E)) (va_up_ne _ _ h)
  | 8, _, h => congrArg (fun g => (.inl (cy 0, 10, .inl g) : va_E)) (va_up_ne _ _ h)
  | 9, _, h => congrArg (fun g => (.inl (cy 0, 10, .inl g) : va_E)) (va_up_ne _ _ h)
  | 10, _, h => congrArg (fun g => (.inl (cy 0, 10, .inl g) : va_E)) (va_up_ne _ _ h)
  | 11, _, h => congrArg (fun g => (.inl (cy 0, 10, .inl g) : va_E)) (va_up_ne _ _ h)
  | 12, _, h => congrArg (fun g => (.inl (cy 0, 10, .inl g) : va_E)) (va_up_ne _ _ h)
  | 13, _, _ => rfl
  | 14, _, h => congrArg (fun g => (.inl (cy 0, 10, .inl g) : va_E)) (va_up_ne _ _ h)
  | 15, _, _ => rfl
  | 16, _, h => congrArg (fun g => (.inl (cy 0, 3, .inl g) : va_E)) (va_up_ne _ _ h)
  | 17, _, _ => rfl
  | 18, _, h => congrArg (fun g => (.inl (cy 0, 10, .inl g) : va_E)) (va_up_ne _ _ h)
  | 19, _, h => congrArg (fun g => (.inl (cy 0, 10, .inl g) : va_E)) (va_up_ne _ _ h)
  | 20, _, h => congrArg (fun g => (.inl (cy 0, 10, .inl g) : va_E)) (va_up_ne _ _ h)
  | 21, _, h => congrArg (fun g => (.inl (cy 0, 10, .inl g) : va_E)) (va_up_ne _ _ h)
  | 22, _, h => congrArg (fun g => (.inl (cy 0, 10, .inl g) : va_E)) (va_up_ne _ _ h)
  | 23, _, h => congrArg (fun g => (.inl (cy 0, 10, .inl g) : va_E)) (va_up_ne _ _ h)
  | 24, _, h => congrArg (fun g => (.inl (cy 0, 10, .inl g) : va_E)) (va_up_ne _ _ h)
  | 25, _, h => congrArg (fun g => (.inl (cy 0, 10, .inl g) : va_E)) (va_up_ne _ _ h)
  | 26, _, h => congrArg (fun g => (.inl (cy 0, 10, .inl g) : va_E)) (va_up_ne _ _ h)
  | 27, _, _ => rfl
  | 28, _, h => congrArg (fun g => (.inl (cy 0, 10, .inl g) : va_E)) (va_up_ne _ _ h)
  | 29, _, _ => rfl
  | 30, _, h => congrArg (fun g => (.inl (cy 0, 10, .inl g) : va_E)) (va_up_ne _ _ h)
  | 31, _, h => congrArg (fun g => (.inl (cy 0, 11, .inl g) : va_E)) (va_up_ne _ _ h)
  | 32, _, _ => rfl
  | 33, _, h => congrArg (fun g => (.inl (cy 0, 1024, .inl g) : va_E)) (va_up_ne _ _ h)
  | 34, _, h => congrArg (fun g => (.inl (cy 2, 1024, .inl g) : va_E)) (va_up_ne _ _ h)
  | 35, _, h => congrArg (fun g => (.inl (cy 0, 1024, .inl g) : va_E)) (va_up_ne _ _ h)
  | 36, _, h => congrArg (fun g => (.inl (cy 0, 1024, .inl g) : va_E)) (va_up_ne _ _ h)
  | 37, _, h => congrArg (fun g => (.inl (cy 0, 1024, .inl g) : va_E)) (va_up_ne _ _ h)
  | 38, _, h => congrArg (fun g => (.inl (cy 0, 1024, .inl g) : va_E)) (va_up_ne _ _ h)
  | 39, _, h => congrArg (fun g => (.inl (cy 0, 1024, .inl g) : va_E)) (va_up_ne _ _ h)
  | 40, _, _ => rfl
  | 41, _, _ => rfl
  | 42, _, _ => rfl
  | 43, _, _ => rfl
  | 44, _, _ => rfl
  | 45, _, _ => rfl
  | 46, _, _ => rfl
  | 47, _, _ => rfl
  | 48, _, _ => rfl
  | 49, _, _ => rfl
  | 50, _, _ => rfl
  | 51, _, _ => rfl
  | 52, _, _ => rfl
  | 53, _, _ => rfl
  | 54, _, _ => rfl
  | 55, _, _ => rfl
  | 56, _, h => congrArg (fun g => (.inl (cy 0, 10, .inl g) : va_E)) (va_up_ne _ _ h)
  | 57, _, _ => rfl
  | 58, _, h => congrArg (fun g => (.inl (cy 0, 4, .inl g) : va_E)) (va_up_ne _ _ h)
  | 59, _, h => congrArg (fun g => (.inl (cy 0, 4, .inl g) : va_E)) (va_up_ne _ _ h)
  | 60, _, _ => rfl
  | 61, _, h => congrArg (fun g => (.inl (cy 0, 40, .inl g) : va_E)) (va_up_ne _ _ h)
  | 62, _, h => congrArg (fun g => (.inl (cy 0, 40, .inl g) : va_E)) (va_up_ne _ _ h)
  | 63, _, h => congrArg (fun g => (.inl (cy 0, 40, .inl g) : va_E)) (va_up_ne _ _ h)
  | 64, _, h => congrArg (fun g => (.inl (cy 0, 40, .inl g) : va_E)) (va_up_ne _ _ h)
  | 65, _, h => congrArg (fun g => (.inl (cy 0, 20, .inl g) : va_E)) (va_up_ne _ _ h)
  | n + 66, h, _ => absurd h (by omega)
theorem enC_L (cy : Nat → ClassId) (q : Nat → Nat) (z : zS) (k : Nat) (f : Nat → Int64) : ∀ j, j < 66 → j ≠ k → enC cy q (upL z k f) j = enC cy q z j
  | 0, _, _ => rfl
  | 1, _, _ => rfl
  | 2, _, _ => rfl
  | 3, _, _ => rfl
  | 4, _, _ => rfl
  | 5, _, _ => rfl
  | 6, _, _ => rfl
  | 7, _, _ => rfl
  | 8, _, _ => rfl
  | 9, _, _ => rfl
  | 10, _, _ => rfl
  | 11, _, _ => rfl
  | 12, _, _ => rfl
  | 13, _, _ => rfl
  | 14, _, _ => rfl
  | 15, _, _ => rfl
  | 16, _, _ => rfl
  | 17, _, _ => rfl
  | 18, _, _ => rfl
  | 19, _, _ => rfl
  | 20, _, _ => rfl
  | 21, _, _ => rfl
  | 22, _, _ => rfl
  | 23, _, _ => rfl
  | 24, _, _ => rfl
  | 25, _, _ => rfl
  | 26, _, _ => rfl
  | 27, _, _ => rfl
  | 28, _, _ => rfl
  | 29, _, _ => rfl
  | 30, _, _ => rfl
  | 31, _, _ => rfl
  | 32, _, _ => rfl
  | 33, _, _ => rfl
  | 34, _, _ => rfl
  | 35, _, _ => rfl
  | 36, _, _ => rfl
  | 37, _, _ => rfl
  | 38, _, _ => rfl
  | 39, _, _ => rfl
  | 40, _, _ => rfl
  | 41, _, h => congrArg (fun g => (.inl (cy 1, 1024, .inr (.inl g)) : va_E)) (va_up_ne _ _ h)
  | 42, _, h => congrArg (fun g => (.inl (cy 1, 1024, .inr (.inl g)) : va_E)) (va_up_ne _ _ h)
  | 43, _, h => congrArg (fun g => (.inl (cy 1, 1024, .inr (.inl g)) : va_E)) (va_up_ne _ _ h)
  | 44, _, h => congrArg (fun g => (.inl (cy 1, 1024, .inr (.inl g)) : va_E)) (va_up_ne _ _ h)
  | 45, _, h => congrArg (fun g => (.inl (cy 1, 1024, .inr (.inl g)) : va_E)) (va_up_ne _ _ h)
  | 46, _, h => congrArg (fun g => (.inl (cy 1, 1024, .inr (.inl g)) : va_E)) (va_up_ne _ _ h)
  | 47, _, h => congrArg (fun g => (.inl (cy 1, 1024, .inr (.inl g)) : va_E)) (va_up_ne _ _ h)
  | 48, _, h => congrArg (fun g => (.inl (cy 1, 1024, .inr (.inl g)) : va_E)) (va_up_ne _ _ h)
  | 49, _, h => congrArg (fun g => (.inl (cy 1, 1024, .inr (.inl g)) : va_E)) (va_up_ne _ _ h)
  | 50, _, h => congrArg (fun g => (.inl (cy 1, 1024, .inr (.inl g)) : va_E)) (va_up_ne _ _ h)
  | 51, _, h => congrArg (fun g => (.inl (cy 1, 1024, .inr (.inl g)) : va_E)) (va_up_ne _ _ h)
  | 52, _, _ => rfl
  | 53, _, h => congrArg (fun g => (.inl (cy 1, 1024, .inr (.inl g)) : va_E)) (va_up_ne _ _ h)
  | 54, _, h => congrArg (fun g => (.inl (cy 1, 1024, .inr (.inl g)) : va_E)) (va_up_ne _ _ h)
  | 55, _, _ => rfl
  | 56, _, _ => rfl
  | 57, _, _ => rfl
  | 58, _, _ => rfl
  | 59, _, _ => rfl
  | 60, _, _ => rfl
  | 61, _, _ => rfl
  | 62, _, _ => rfl
  | 63, _, _ => rfl
  | 64, _, _ => rfl
  | 65, _, _ => rfl
  | n + 66, h, _ => absurd h (by omega)
theorem enC_S0 (cy : Nat → ClassId) (q : Nat → Nat) (z : zS) (v : Int32) : ∀ j, j < 66 → j ≠ 1 → enC cy q (upS z 0 v) j = enC cy q z j
  | 0, _, h => rfl
  | 1, _, h => absurd rfl h
  | 2, _, h => rfl
  | 3, _, h => rfl
  | 4, _, h => rfl
  | 5, _, h => rfl
  | 6, _, h => rfl
  | 7, _, h => rfl
  | 8, _, h => rfl
  | 9, _, h => rfl
  | 10, _, h => rfl
  | 11, _, h => rfl
  | 12, _, h => rfl
  | 13, _, h => rfl
  | 14, _, h => rfl
  | 15, _, h => rfl
  | 16, _, h => rfl
  | 17, _, h => rfl
  | 18, _, h => rfl
  | 19, _, h => rfl
  | 20, _, h => rfl
  | 21, _, h => rfl
  | 22, _, h => rfl
  | 23, _, h => rfl
  | 24, _, h => rfl
  | 25, _, h => rfl
  | 26, _, h => rfl
  | 27, _, h => rfl
  | 28, _, h => rfl
  | 29, _, h => rfl
  | 30, _, h => rfl
  | 31, _, h => rfl
  | 32, _, h => rfl
  | 33, _, h => rfl
  | 34, _, h => rfl
  | 35, _, h => rfl
  | 36, _, h => rfl
  | 37, _, h => rfl
  | 38, _, h => rfl
  | 39, _, h => rfl
  | 40, _, h => rfl
  | 41, _, h => rfl
  | 42, _, h => rfl
  | 43, _, h => rfl
  | 44, _, h => rfl
  | 45, _, h => rfl
  | 46, _, h => rfl
  | 47, _, h => rfl
  | 48, _, h => rfl
  | 49, _, h => rfl
  | 50, _, h => rfl
  | 51, _, h => rfl
  | 52, _, h => rfl
  | 53, _, h => rfl
  | 54, _, h => rfl
  | 55, _, h => rfl
  | 56, _, h => rfl
  | 57, _, h => rfl
  | 58, _, h => rfl
  | 59, _, h => rfl
  | 60, _, h => rfl
  | 61, _, h => rfl
  | 62, _, h => rfl
  | 63, _, h => rfl
  | 64, _, h => rfl
  | 65, _, h => rfl
  | n + 66, h, _ => absurd h (by omega)
theorem enC_S1 (cy : Nat → ClassId) (q : Nat → Nat) (z : zS) (v : Int32) : ∀ j, j < 66 → j ≠ 1 → enC cy q (upS z 1 v) j = enC cy q z j
  | 0, _, h => rfl
  | 1, _, h => absurd rfl h
  | 2, _, h => rfl
  | 3, _, h => rfl
  | 4, _, h => rfl
  | 5, _, h => rfl
  | 6, _, h => rfl
  | 7, _, h => rfl
  | 8, _, h => rfl
  | 9, _, h => rfl
  | 10, _, h => rfl
  | 11, _, h => rfl
  | 12, _, h => rfl
  | 13, _, h => rfl
  | 14, _, h => rfl
  | 15, _, h => rfl
  | 16, _, h => rfl
  | 17, _, h => rfl
  | 18, _, h => rfl
  | 19, _, h => rfl
  | 20, _, h => rfl
  | 21, _, h => rfl
  | 22, _, h => rfl
  | 23, _, h => rfl
  | 24, _, h => rfl
  | 25, _, h => rfl
  | 26, _, h => rfl
  | 27, _, h => rfl
  | 28, _, h => rfl
  | 29, _, h => rfl
  | 30, _, h => rfl
  | 31, _, h => rfl
  | 32, _, h => rfl
  | 33, _, h => rfl
  | 34, _, h => rfl
  | 35, _, h => rfl
  | 36, _, h => rfl
  | 37, _, h => rfl
  | 38, _, h => rfl
  | 39, _, h => rfl
  | 40, _, h => rfl
  | 41, _, h => rfl
  | 42, _, h => rfl
  | 43, _, h => rfl
  | 44, _, h => rfl
  | 45, _, h => rfl
  | 46, _, h => rfl
  | 47, _, h => rfl
  | 48, _, h => rfl
  | 49, _, h => rfl
  | 50, _, h => rfl
  | 51, _, h => rfl
  | 52, _, h => rfl
  | 53, _, h => rfl
  | 54, _, h => rfl
  | 55, _, h => rfl
  | 56, _, h => rfl
  | 57, _, h => rfl
  | 58, _, h => rfl
  | 59, _, h => rfl
  | 60, _, h => rfl
  | 61, _, h => rfl
  | 62, _, h => rfl
  | 63, _, h => rfl
  | 64, _, h => rfl
  | 65, _, h => rfl
  | n + 66, h, _ => absurd h (by omega)
theorem enC_S2 (cy : Nat → ClassId) (q : Nat → Nat) (z : zS) (v : Int32) : ∀ j, j < 66 → j ≠ 1 → enC cy q (upS z 2 v) j = enC cy q z j
  | 0, _, h => rfl
  | 1, _, h => absurd rfl h
  | 2, _, h => rfl
  | 3, _, h => rfl
  | 4, _, h => rfl
  | 5, _, h => rfl
  | 6, _, h => rfl
  | 7, _, h => rfl
  | 8, _, h => rfl
  | 9, _, h => rfl
  | 10, _, h => rfl
  | 11, _, h => rfl
  | 12, _, h => rfl
  | 13, _, h => rfl
  | 14, _, h => rfl
  | 15, _, h => rfl
  | 16, _, h => rfl
  | 17, _, h => rfl
  | 18, _, h => rfl
  | 19, _, h => rfl
  | 20, _, h => rfl
  | 21, _, h => rfl
  | 22, _, h => rfl
  | 23, _, h => rfl
  | 24, _, h => rfl
  | 25, _, h => rfl
  | 26, _, h => rfl
  | 27, _, h => rfl
  | 28, _, h => rfl
  | 29, _, h => rfl
  | 30, _, h => rfl
  | 31, _, h => rfl
  | 32, _, h => rfl
  | 33, _, h => rfl
  | 34, _, h => rfl
  | 35, _, h => rfl
  | 36, _, h => rfl
  | 37, _, h => rfl
  | 38, _, h => rfl
  | 39, _, h => rfl
  | 40, _, h => rfl
  | 41, _, h => rfl
  | 42, _, h => rfl
  | 43, _, h => rfl
  | 44, _, h => rfl
  | 45, _, h => rfl
  | 46, _, h => rfl
  | 47, _, h => rfl
  | 48, _, h => rfl
  | 49, _, h => rfl
  | 50, _, h => rfl
  | 51, _, h => rfl
  | 52, _, h => rfl
  | 53, _, h => rfl
  | 54, _, h => rfl
  | 55, _, h => rfl
  | 56, _, h => rfl
  | 57, _, h => rfl
  | 58, _, h => rfl
  | 59, _, h => rfl
  | 60, _, h => rfl
  | 61, _, h => rfl
  | 62, _, h => rfl
  | 63, _, h => rfl
  | 64, _, h => rfl
  | 65, _, h => rfl
  | n + 66, h, _ => absurd h (by omega)
theorem enC_S3 (cy : Nat → ClassId) (q : Nat → Nat) (z : zS) (v : Int32) : ∀ j, j < 66 → j ≠ 15 → enC cy q (upS z 3 v) j = enC cy q z j
  | 0, _, h => rfl
  | 1, _, h => rfl
  | 2, _, h => rfl
  | 3, _, h => rfl
  | 4, _, h => rfl
  | 5, _, h => rfl
  | 6, _, h => rfl
  | 7, _, h => rfl
  | 8, _, h => rfl
  | 9, _, h => rfl
  | 10, _, h => rfl
  | 11, _, h => rfl
  | 12, _, h => rfl
  | 13, _, h => rfl
  | 14, _, h => rfl
  | 15, _, h => absurd rfl h
  | 16, _, h => rfl
  | 17, _, h => rfl
  | 18, _, h => rfl
  | 19, _, h => rfl
  | 20, _, h => rfl
  | 21, _, h => rfl
  | 22, _, h => rfl
  | 23, _, h => rfl
  | 24, _, h => rfl
  | 25, _, h => rfl
  | 26, _, h => rfl
  | 27, _, h => rfl
  | 28, _, h => rfl
  | 29, _, h => rfl
  | 30, _, h => rfl
  | 31, _, h => rfl
  | 32, _, h => rfl
  | 33, _, h => rfl
  | 34, _, h => rfl
  | 35, _, h => rfl
  | 36, _, h => rfl
  | 37, _, h => rfl
  | 38, _, h => rfl
  | 39, _, h => rfl
  | 40, _, h => rfl
  | 41, _, h => rfl
  | 42, _, h => rfl
  | 43, _, h => rfl
  | 44, _, h => rfl
  | 45, _, h => rfl
  | 46, _, h => rfl
  | 47, _, h => rfl
  | 48, _, h => rfl
  | 49, _, h => rfl
  | 50, _, h => rfl
  | 51, _, h => rfl
  | 52, _, h => rfl
  | 53, _, h => rfl
  | 54, _, h => rfl
  | 55, _, h => rfl
  | 56, _, h => rfl
  | 57, _, h => rfl
  | 58, _, h => rfl
  | 59, _, h => rfl
  | 60, _, h => rfl
  | 61, _, h => rfl
  | 62, _, h => rfl
  | 63, _, h => rfl
  | 64, _, h => rfl
  | 65, _, h => rfl
  | n + 66, h, _ => absurd h (by omega)
theorem enC_S4 (cy : Nat → ClassId) (q : Nat → Nat) (z : zS) (v : Int32) : ∀ j, j < 66 → j ≠ 15 → enC cy q (upS z 4 v) j = enC cy q z j
  | 0, _, h => rfl
  | 1, _, h => rfl
  | 2, _, h => rfl
  | 3, _, h => rfl
  | 4, _, h => rfl
  | 5, _, h => rfl
  | 6, _, h => rfl
  | 7, _, h => rfl
  | 8, _, h => rfl
  | 9, _, h => rfl
  | 10, _, h => rfl
  | 11, _, h => rfl
  | 12, _, h => rfl
  | 13, _, h => rfl
  | 14, _, h => rfl
  | 15, _, h => absurd rfl h
  | 16, _, h => rfl
  | 17, _, h => rfl
  | 18, _, h => rfl
  | 19, _, h => rfl
  | 20, _, h => rfl
  | 21, _, h => rfl
  | 22, _, h => rfl
  | 23, _, h => rfl
  | 24, _, h => rfl
  | 25, _, h => rfl
  | 26, _, h => rfl
  | 27, _, h => rfl
  | 28, _, h => rfl
  | 29, _, h => rfl
  | 30, _, h => rfl
  | 31, _, h => rfl
  | 32, _, h => rfl
  | 33, _, h => rfl
  | 34, _, h => rfl
  | 35, _, h => rfl
  | 36, _, h => rfl
  | 37, _, h => rfl
  | 38, _, h => rfl
  | 39, _, h => rfl
  | 40, _, h => rfl
  | 41, _, h => rfl
  | 42, _, h => rfl
  | 43, _, h => rfl
  | 44, _, h => rfl
  | 45, _, h => rfl
  | 46, _, h => rfl
  | 47, _, h => rfl
  | 48, _, h => rfl
  | 49, _, h => rfl
  | 50, _, h => rfl
  | 51, _, h => rfl
  | 52, _, h => rfl
  | 53, _, h => rfl
  | 54, _, h => rfl
  | 55, _, h => rfl
  | 56, _, h => rfl
  | 57, _, h => rfl
  | 58, _, h => rfl
  | 59, _, h => rfl
  | 60, _, h => rfl
  | 61, _, h => rfl
  | 62, _, h => rfl
  | 63, _, h => rfl
  | 64, _, h => rfl
  | 65, _, h => rfl
  | n + 66, h, _ => absurd h (by omega)
theorem enC_S5 (cy : Nat → ClassId) (q : Nat → Nat) (z : zS) (v : Int32) : ∀ j, j < 66 → j ≠ 15 → enC cy q (upS z 5 v) j = enC cy q z j
  | 0, _, h => rfl
  | 1, _, h => rfl
  | 2, _, h => rfl
  | 3, _, h => rfl
  | 4, _, h => rfl
  | 5, _, h => rfl
  | 6, _, h => rfl
  | 7, _, h => rfl
  | 8, _, h => rfl
  | 9, _, h => rfl
  | 10, _, h => rfl
  | 11, _, h => rfl
  | 12, _, h => rfl
  | 13, _, h => rfl
  | 14, _, h => rfl
  | 15, _, h => absurd rfl h
  | 16, _, h => rfl
  | 17, _, h => rfl
  | 18, _, h => rfl
  | 19, _, h => rfl
  | 20, _, h => rfl
  | 21, _, h => rfl
  | 22, _, h => rfl
  | 23, _, h => rfl
  | 24, _, h => rfl
  | 25, _, h => rfl
  | 26, _, h => rfl
  | 27, _, h => rfl
  | 28, _, h => rfl
  | 29, _, h => rfl
  | 30, _, h => rfl
  | 31, _, h => rfl
  | 32, _, h => rfl
  | 33, _, h => rfl
  | 34, _, h => rfl
  | 35, _, h => rfl
  | 36, _, h => rfl
  | 37, _, h => rfl
  | 38, _, h => rfl
  | 39, _, h => rfl
  | 40, _, h => rfl
  | 41, _, h => rfl
  | 42, _, h => rfl
  | 43, _, h => rfl
  | 44, _, h => rfl
  | 45, _, h => rfl
  | 46, _, h => rfl
  | 47, _, h => rfl
  | 48, _, h => rfl
  | 49, _, h => rfl
  | 50, _, h => rfl
  | 51, _, h => rfl
  | 52, _, h => rfl
  | 53, _, h => rfl
  | 54, _, h => rfl
  | 55, _, h => rfl
  | 56, _, h => rfl
  | 57, _, h => rfl
  | 58, _, h => rfl
  | 59, _, h => rfl
  | 60, _, h => rfl
  | 61, _, h => rfl
  | 62, _, h => rfl
  | 63, _, h => rfl
  | 64, _, h => rfl
  | 65, _, h => rfl
  | n + 66, h, _ => absurd h (by omega)
theorem enC_S6 (cy : Nat → ClassId) (q : Nat → Nat) (z : zS) (v : Int32) : ∀ j, j < 66 → j ≠ 0 → enC cy q (upS z 6 v) j = enC cy q z j
  | 0, _, h => absurd rfl h
  | 1, _, h => rfl
  | 2, _, h => rfl
  | 3, _, h => rfl
  | 4, _, h => rfl
  | 5, _, h => rfl
  | 6, _, h => rfl
  | 7, _, h => rfl
  | 8, _, h => rfl
  | 9, _, h => rfl
  | 10, _, h => rfl
  | 11, _, h => rfl
  | 12, _, h => rfl
  | 13, _, h => rfl
  | 14, _, h => rfl
  | 15, _, h => rfl
  | 16, _, h => rfl
  | 17, _, h => rfl
  | 18, _, h => rfl
  | 19, _, h => rfl
  | 20, _, h => rfl
  | 21, _, h => rfl
  | 22, _, h => rfl
  | 23, _, h => rfl
  | 24, _, h => rfl
  | 25, _, h => rfl
  | 26, _, h => rfl
  | 27, _, h => rfl
  | 28, _, h => rfl
  | 29, _, h => rfl
  | 30, _, h => rfl
  | 31, _, h => rfl
  | 32, _, h => rfl
  | 33, _, h => rfl
  | 34, _, h => rfl
  | 35, _, h => rfl
  | 36, _, h => rfl
  | 37, _, h => rfl
  | 38, _, h => rfl
  | 39, _, h => rfl
  | 40, _, h => rfl
  | 41, _, h => rfl
  | 42, _, h => rfl
  | 43, _, h => rfl
  | 44, _, h => rfl
  | 45, _, h => rfl
  | 46, _, h => rfl
  | 47, _, h => rfl
  | 48, _, h => rfl
  | 49, _, h => rfl
  | 50, _, h => rfl
  | 51, _, h => rfl
  | 52, _, h => rfl
  | 53, _, h => rfl
  | 54, _, h => rfl
  | 55, _, h => rfl
  | 56, _, h => rfl
  | 57, _, h => rfl
  | 58, _, h => rfl
  | 59, _, h => rfl
  | 60, _, h => rfl
  | 61, _, h => rfl
  | 62, _, h => rfl
  | 63, _, h => rfl
  | 64, _, h => rfl
  | 65, _, h => rfl
  | n + 66, h, _ => absurd h (by omega)
theorem enC_S7 (cy : Nat → ClassId) (q : Nat → Nat) (z : zS) (v : Int32) : ∀ j, j < 66 → j ≠ 29 → enC cy q (upS z 7 v) j = enC cy q z j
  | 0, _, h => rfl
  | 1, _, h => rfl
  | 2, _, h => rfl
  | 3, _, h => rfl
  | 4, _, h => rfl
  | 5, _, h => rfl
  | 6, _, h => rfl
  | 7, _, h => rfl
  | 8, _, h => rfl
  | 9, _, h => rfl
  | 10, _, h => rfl
  | 11, _, h => rfl
  | 12, _, h => rfl
  | 13, _, h => rfl
  | 14, _, h => rfl
  | 15, _, h => rfl
  | 16, _, h => rfl
  | 17, _, h => rfl
  | 18, _, h => rfl
  | 19, _, h => rfl
  | 20, _, h => rfl
  | 21, _, h => rfl
  | 22, _, h => rfl
  | 23, _, h => rfl
  | 24, _, h => rfl
  | 25, _, h => rfl
  | 26, _, h => rfl
  | 27, _, h => rfl
  | 28, _, h => rfl
  | 29, _, h => absurd rfl h
  | 30, _, h => rfl
  | 31, _, h => rfl
  | 32, _, h => rfl
  | 33, _, h => rfl
  | 34, _, h => rfl
  | 35, _, h => rfl
  | 36, _, h => rfl
  | 37, _, h => rfl
  | 38, _, h => rfl
  | 39, _, h => rfl
  | 40, _, h => rfl
  | 41, _, h => rfl
  | 42, _, h => rfl
  | 43, _, h => rfl
  | 44, _, h => rfl
  | 45, _, h => rfl
  | 46, _, h => rfl
  | 47, _, h => rfl
  | 48, _, h => rfl
  | 49, _, h => rfl
  | 50, _, h => rfl
  | 51, _, h => rfl
  | 52, _, h => rfl
  | 53, _, h => rfl
  | 54, _, h => rfl
  | 55, _, h => rfl
  | 56, _, h => rfl
  | 57, _, h => rfl
  | 58, _, h => rfl
  | 59, _, h => rfl
  | 60, _, h => rfl
  | 61, _, h => rfl
  | 62, _, h => rfl
  | 63, _, h => rfl
  | 64, _, h => rfl
  | 65, _, h => rfl
  | n + 66, h, _ => absurd h (by omega)
theorem enC_S8 (cy : Nat → ClassId) (q : Nat → Nat) (z : zS) (v : Int32) : ∀ j, j < 66 → j ≠ 32 → enC cy q (upS z 8 v) j = enC cy q z j
  | 0, _, h => rfl
  | 1, _, h => rfl
  | 2, _, h => rfl
  | 3, _, h => rfl
  | 4, _, h => rfl
  | 5, _, h => rfl
  | 6, _, h => rfl
  | 7, _, h => rfl
  | 8, _, h => rfl
  | 9, _, h => rfl
  | 10, _, h => rfl
  | 11, _, h => rfl
  | 12, _, h => rfl
  | 13, _, h => rfl
  | 14, _, h => rfl
  | 15, _, h => rfl
  | 16, _, h => rfl
  | 17, _, h => rfl
  | 18, _, h => rfl
  | 19, _, h => rfl
  | 20, _, h => rfl
  | 21, _, h => rfl
  | 22, _, h => rfl
  | 23, _, h => rfl
  | 24, _, h => rfl
  | 25, _, h => rfl
  | 26, _, h => rfl
  | 27, _, h => rfl
  | 28, _, h => rfl
  | 29, _, h => rfl
  | 30, _, h => rfl
  | 31, _, h => rfl
  | 32, _, h => absurd rfl h
  | 33, _, h => rfl
  | 34, _, h => rfl
  | 35, _, h => rfl
  | 36, _, h => rfl
  | 37, _, h => rfl
  | 38, _, h => rfl
  | 39, _, h => rfl
  | 40, _, h => rfl
  | 41, _, h => rfl
  | 42, _, h => rfl
  | 43, _, h => rfl
  | 44, _, h => rfl
  | 45, _, h => rfl
  | 46, _, h => rfl
  | 47, _, h => rfl
  | 48, _, h => rfl
  | 49, _, h => rfl
  | 50, _, h => rfl
  | 51, _, h => rfl
  | 52, _, h => rfl
  | 53, _, h => rfl
  | 54, _, h => rfl
  | 55, _, h => rfl
  | 56, _, h => rfl
  | 57, _, h => rfl
  | 58, _, h => rfl
  | 59, _, h => rfl
  | 60, _, h => rfl
  | 61, _, h => rfl
  | 62, _, h => rfl
  | 63, _, h => rfl
  | 64, _, h => rfl
  | 65, _, h => rfl
  | n + 66, h, _ => absurd h (by omega)
theorem enC_S9 (cy : Nat → ClassId) (q : Nat → Nat) (z : zS) (v : Int32) : ∀ j, j < 66 → j ≠ 0 → enC cy q (upS z 9 v) j = enC cy q z j
  | 0, _, h => absurd rfl h
  | 1, _, h => rfl
  | 2, _, h => rfl
  | 3, _, h => rfl
  | 4, _, h => rfl
  | 5, _, h => rfl
  | 6, _, h => rfl
  | 7, _, h => rfl
  | 8, _, h => rfl
  | 9, _, h => rfl
  | 10, _, h => rfl
  | 11, _, h => rfl
  | 12, _, h => rfl
  | 13, _, h => rfl
  | 14, _, h => rfl
  | 15, _, h => rfl
  | 16, _, h => rfl
  | 17, _, h => rfl
  | 18, _, h => rfl
  | 19, _, h => rfl
  | 20, _, h => rfl
  | 21, _, h => rfl
  | 22, _, h => rfl
  | 23, _, h => rfl
  | 24, _, h => rfl
  | 25, _, h => rfl
  | 26, _, h => rfl
  | 27, _, h => rfl
  | 28, _, h => rfl
  | 29, _, h => rfl
  | 30, _, h => rfl
  | 31, _, h => rfl
  | 32, _, h => rfl
  | 33, _, h => rfl
  | 34, _, h => rfl
  | 35, _, h => rfl
  | 36, _, h => rfl
  | 37, _, h => rfl
  | 38, _, h => rfl
  | 39, _, h => rfl
  | 40, _, h => rfl
  | 41, _, h => rfl
  | 42, _, h => rfl
  | 43, _, h => rfl
  | 44, _, h => rfl
  | 45, _, h => rfl
  | 46, _, h => rfl
  | 47, _, h => rfl
  | 48, _, h => rfl
  | 49, _, h => rfl
  | 50, _, h => rfl
  | 51, _, h => rfl
  | 52, _, h => rfl
  | 53, _, h => rfl
  | 54, _, h => rfl
  | 55, _, h => rfl
  | 56, _, h => rfl
  | 57, _, h => rfl
  | 58, _, h => rfl
  | 59, _, h => rfl
  | 60, _, h => rfl
  | 61, _, h => rfl
  | 62, _, h => rfl
  | 63, _, h => rfl
  | 64, _, h => rfl
  | 65, _, h => rfl
  | n + 66, h, _ => absurd h (by omega)
theorem enC_S10 (cy : Nat → ClassId) (q : Nat → Nat) (z : zS) (v : Int32) : ∀ j, j < 66 → j ≠ 0 → enC cy q (upS z 10 v) j = enC cy q z j
  | 0, _, h => absurd rfl h
  | 1, _, h => rfl
  | 2, _, h => rfl
  | 3, _, h => rfl
  | 4, _, h => rfl
  | 5, _, h => rfl
  | 6, _, h => rfl
  | 7, _, h => rfl
  | 8, _, h => rfl
  | 9, _, h => rfl
  | 10, _, h => rfl
  | 11, _, h => rfl
  | 12, _, h => rfl
  | 13, _, h => rfl
  | 14, _, h => rfl
  | 15, _, h => rfl
  | 16, _, h => rfl
  | 17, _, h => rfl
  | 18, _, h => rfl
  | 19, _, h => rfl
  | 20, _, h => rfl
  | 21, _, h => rfl
  | 22, _, h => rfl
  | 23, _, h => rfl
  | 24, _, h => rfl
  | 25, _, h => rfl
  | 26, _, h => rfl
  | 27, _, h => rfl
  | 28, _, h => rfl
  | 29, _, h => rfl
  | 30, _, h => rfl
  | 31, _, h => rfl
  | 32, _, h => rfl
  | 33, _, h => rfl
  | 34, _, h => rfl
  | 35, _, h => rfl
  | 36, _, h => rfl
  | 37, _, h => rfl
  | 38, _, h => rfl
  | 39, _, h => rfl
  | 40, _, h => rfl
  | 41, _, h => rfl
  | 42, _, h => rfl
  | 43, _, h => rfl
  | 44, _, h => rfl
  | 45, _, h => rfl
  | 46, _, h => rfl
  | 47, _, h => rfl
  | 48, _, h => rfl
  | 49, _, h => rfl
  | 50, _, h => rfl
  | 51, _, h => rfl
  | 52, _, h => rfl
  | 53, _, h => rfl
  | 54, _, h => rfl
  | 55, _, h => rfl
  | 56, _, h => rfl
  | 57, _, h => rfl
  | 58, _, h => rfl
  | 59, _, h => rfl
  | 60, _, h => rfl
  | 61, _, h => rfl
  | 62, _, h => rfl
  | 63, _, h => rfl
  | 64, _, h => rfl
  | 65, _, h => rfl
  | n + 66, h, _ => absurd h (by omega)
def o_share (a b : Int32) : Int32 := if (0 ≤ a.toInt ∧ a.toInt ≤ 2) ∧ (0 ≤ b.toInt ∧ b.toInt ≤ 9) ∧ ¬ (a.toInt = 0 ∧ b.toInt = 0) then (if a.toInt = 0 then 1 else 0) else -2
def o_line (a : Int32) : Int32 := if 0 ≤ a.toInt ∧ a.toInt ≤ 3 then 0 else -2
def o_beat (a : Int32) : Int32 := if 1 ≤ a.toInt ∧ a.toInt ≤ 1000 then 10 else -2
def o_station (a b : Int32) : Int32 := if (1 ≤ a.toInt ∧ a.toInt ≤ 10) ∧ (0 ≤ b.toInt ∧ b.toInt ≤ 2) then (if b.toInt = 2 then 10 else 0) else -2
def o_leastBeat (a : Int32) : Int32 := if 1 ≤ a.toInt ∧ a.toInt ≤ 10 then 1 else -2
def o_bound (a : Int32) : Int32 := if 0 ≤ a.toInt ∧ a.toInt ≤ 1 then 0 else -2
def o_rule (a : Int32) : Int32 := if 0 ≤ a.toInt ∧ a.toInt ≤ 3 then 0 else -2
def o_sheet (a b n : Int32) : Int32 := if (0 ≤ a.toInt ∧ a.toInt ≤ 3) ∧ (0 ≤ b.toInt ∧ b.toInt ≤ 2) ∧ n.toInt ≤ 40 then (if n.toInt < 0 then -13 else n) else -2
def o_write (a : Int32) : Int32 := if 0 ≤ a.toInt ∧ a.toInt ≤ 3 then -10 else -2
def o_take (a b n : Int32) : Int32 := if (0 ≤ a.toInt ∧ a.toInt ≤ 2) ∧ (0 ≤ b.toInt ∧ b.toInt ≤ 3) ∧ (0 ≤ n.toInt ∧ n.toInt ≤ 2) then -10 else -2
def o_lose (a : Int32) : Int32 := if 0 ≤ a.toInt ∧ a.toInt ≤ 3 then 0 else -2
def o_count (a : Int32) : Int32 := if 0 ≤ a.toInt ∧ a.toInt ≤ 3 then 0 else if 4 ≤ a.toInt ∧ a.toInt ≤ 5 then 10 else -2
def Fr (z : zS) : Prop := z.1 0 = 0 ∧ z.1 1 = 0 ∧ z.1 2 = 10 ∧ z.1 6 = 0 ∧ z.1 7 = 0 ∧ z.1 9 = 0 ∧ z.1 10 = 0 ∧ z.2.1 2 0 = 1 ∧ z.2.1 2 1 = 0 ∧ z.2.1 2 2 = 0 ∧ (∀ j : Nat, j < 4 → z.2.1 59 j = -1)
theorem Fr_0 {z : zS} (h : Fr z) : z.1 0 = 0 := h.1
theorem Fr_1 {z : zS} (h : Fr z) : z.1 1 = 0 := h.2.1
theorem Fr_2 {z : zS} (h : Fr z) : z.1 2 = 10 := h.2.2.1
theorem Fr_3 {z : zS} (h : Fr z) : z.1 6 = 0 := h.2.2.2.1
theorem Fr_4 {z : zS} (h : Fr z) : z.1 7 = 0 := h.2.2.2.2.1
theorem Fr_5 {z : zS} (h : Fr z) : z.1 9 = 0 := h.2.2.2.2.2.1
theorem Fr_6 {z : zS} (h : Fr z) : z.1 10 = 0 := h.2.2.2.2.2.2.1
theorem Fr_7 {z : zS} (h : Fr z) : z.2.1 2 0 = 1 := h.2.2.2.2.2.2.2.1
theorem Fr_8 {z : zS} (h : Fr z) : z.2.1 2 1 = 0 := h.2.2.2.2.2.2.2.2.1
theorem Fr_9 {z : zS} (h : Fr z) : z.2.1 2 2 = 0 := h.2.2.2.2.2.2.2.2.2.1
theorem Fr_10 {z : zS} (h : Fr z) : (∀ j : Nat, j < 4 → z.2.1 59 j = -1) := h.2.2.2.2.2.2.2.2.2.2
theorem in_X0_has_X0 : ∀ w ∈ u_ws RX0 TX0 11, w ∈ wsX0_has := fun w h => List.mem_cons_of_mem _ (List.mem_append_right _ h)
theorem in_X0_all_X0 : ∀ w ∈ u_ws RX0 TX0 11, w ∈ wsX0_all := fun w h => List.mem_cons_of_mem _ (List.mem_append_right _ h)
theorem in_X0_add_X0 : ∀ w ∈ u_ws RX0 TX0 11, w ∈ wsX0_add := fun w h => List.mem_cons_of_mem _ (List.mem_append_right _ h)
theorem in_X0_link_X0 : ∀ w ∈ u_ws RX0 TX0 11, w ∈ wsX0_link := fun w h => List.mem_cons_of_mem _ (List.mem_append_right _ h)
theorem in_X0_unlink_X0 : ∀ w ∈ u_ws RX0 TX0 11, w ∈ wsX0_unlink := fun w h => List.mem_cons_of_mem _ (List.mem_append_right _ h)
theorem in_X0_closeOver_X0 : ∀ w ∈ u_ws RX0 TX0 11, w ∈ wsX0_closeOver := fun w h => List.mem_cons_of_mem _ (List.mem_append_right _ h)
theorem in_X0_holdersOf_X0 : ∀ w ∈ u_ws RX0 TX0 11, w ∈ wsX0_holdersOf := fun w h => List.mem_cons_of_mem _ (List.mem_append_right _ h)
theorem in_X0_pairing_X0 : ∀ w ∈ u_ws RX0 TX0 11, w ∈ wsX0_pairing := fun w h => List.mem_cons_of_mem _ (List.mem_append_right _ h)
theorem in_X0_pairUp_X0 : ∀ w ∈ u_ws RX0 TX0 11, w ∈ wsX0_pairUp := fun w h => List.mem_cons_of_mem _ (List.mem_append_right _ h)
theorem in_X0_shareSum_X0 : ∀ w ∈ u_ws RX0 TX0 11, w ∈ wsX0_shareSum := fun w h => List.mem_cons_of_mem _ (List.mem_append_right _ h)
theorem in_X0_roomOfOneBeat_X0 : ∀ w ∈ u_ws RX0 TX0 11, w ∈ wsX0_roomOfOneBeat := fun w h => List.mem_cons_of_mem _ (List.mem_append_right _ h)
theorem in_X0_room_X0 : ∀ w ∈ u_ws RX0 TX0 11, w ∈ wsX0_room := fun w h => List.mem_cons_of_mem _ (List.mem_append_right _ h)
theorem in_X0_weight_X0 : ∀ w ∈ u_ws RX0 TX0 11, w ∈ wsX0_weight := fun w h => List.mem_cons_of_mem _ (List.mem_append_right _ h)
theorem in_X0_joined_X0 : ∀ w ∈ u_ws RX0 TX0 11, w ∈ wsX0_joined := fun w h => List.mem_cons_of_mem _ (List.mem_append_right _ h)
theorem in_X0_loadOf_X0 : ∀ w ∈ u_ws RX0 TX0 11, w ∈ wsX0_loadOf := fun w h => List.mem_cons_of_mem _ (List.mem_append_right _ h)
theorem in_X0_timeSum_X0 : ∀ w ∈ u_ws RX0 TX0 11, w ∈ wsX0_timeSum := fun w h => List.mem_cons_of_mem _ (List.mem_append_right _ h)
theorem in_X0_isOpen_X0 : ∀ w ∈ u_ws RX0 TX0 11, w ∈ wsX0_isOpen := fun w h => List.mem_cons_of_mem _ (List.mem_append_right _ h)
theorem in_X0_halfRoomBound_X0 : ∀ w ∈ u_ws RX0 TX0 11, w ∈ wsX0_halfRoomBound := fun w h => List.mem_cons_of_mem _ (List.mem_append_right _ h)
theorem in_X0_takeTimes_X0 : ∀ w ∈ u_ws RX0 TX0 11, w ∈ wsX0_takeTimes := fun w h => List.mem_cons_of_mem _ (List.mem_append_right _ h)
theorem in_X0_become_X0 : ∀ w ∈ u_ws RX0 TX0 11, w ∈ wsX0_become := fun w h => List.mem_cons_of_mem _ (List.mem_append_right _ h)
theorem in_X1_copyRow_X1 : ∀ w ∈ u_ws RX1 TX1 2, w ∈ wsX1_copyRow := fun w h => List.mem_cons_of_mem _ (List.mem_append_right _ h)
theorem in_X1_setAt_X1 : ∀ w ∈ u_ws RX1 TX1 2, w ∈ wsX1_setAt := fun w h => List.mem_cons_of_mem _ (List.mem_append_left _ (List.mem_append_right _ h))
theorem in_X1_setAt_X0 : ∀ w ∈ u_ws RX0 TX0 11, w ∈ wsX1_setAt := fun w h => List.mem_cons_of_mem _ (List.mem_append_right _ h)
theorem in_X1_setUpTo_X1 : ∀ w ∈ u_ws RX1 TX1 2, w ∈ wsX1_setUpTo := fun w h => List.mem_cons_of_mem _ (List.mem_append_left _ (List.mem_append_right _ h))
theorem in_X1_setUpTo_X0 : ∀ w ∈ u_ws RX0 TX0 11, w ∈ wsX1_setUpTo := fun w h => List.mem_cons_of_mem _ (List.mem_append_right _ h)
theorem in_X1_greatest_X1 : ∀ w ∈ u_ws RX1 TX1 2, w ∈ wsX1_greatest := fun w h => List.mem_cons_of_mem _ (List.mem_append_left _ (List.mem_append_right _ h))
theorem in_X1_greatest_X0 : ∀ w ∈ u_ws RX0 TX0 11, w ∈ wsX1_greatest := fun w h => List.mem_cons_of_mem _ (List.mem_append_right _ h)
theorem in_X1_squareAt_X1 : ∀ w ∈ u_ws RX1 TX1 2, w ∈ wsX1_squareAt := fun w h => List.mem_cons_of_mem _ (List.mem_append_left _ (List.mem_append_right _ h))
theorem in_X1_squareAt_X0 : ∀ w ∈ u_ws RX0 TX0 11, w ∈ wsX1_squareAt := fun w h => List.mem_cons_of_mem _ (List.mem_append_right _ h)
theorem in_X1_squareSum_X1 : ∀ w ∈ u_ws RX1 TX1 2, w ∈ wsX1_squareSum := fun w h => List.mem_cons_of_mem _ (List.mem_append_left _ (List.mem_append_right _ h))
theorem in_X1_squareSum_X0 : ∀ w ∈ u_ws RX0 TX0 11, w ∈ wsX1_squareSum := fun w h => List.mem_cons_of_mem _ (List.mem_append_right _ h)
theorem in_X1_causeOf_X1 : ∀ w ∈ u_ws RX1 TX1 2, w ∈ wsX1_causeOf := fun w h => List.mem_cons_of_mem _ (List.mem_append_left _ (List.mem_append_right _ h))
theorem in_X1_causeOf_X0 : ∀ w ∈ u_ws RX0 TX0 11, w ∈ wsX1_causeOf := fun w h => List.mem_cons_of_mem _ (List.mem_append_right _ h)
theorem in_X1_firstClash_X1 : ∀ w ∈ u_ws RX1 TX1 2, w ∈ wsX1_firstClash := fun w h => List.mem_cons_of_mem _ (List.mem_append_left _ (List.mem_append_right _ h))
theorem in_X1_firstClash_X0 : ∀ w ∈ u_ws RX0 TX0 11, w ∈ wsX1_firstClash := fun w h => List.mem_cons_of_mem _ (List.mem_append_right _ h)
theorem in_X1_moveOnce_X1 : ∀ w ∈ u_ws RX1 TX1 2, w ∈ wsX1_moveOnce := fun w h => List.mem_cons_of_mem _ (List.mem_append_left _ (List.mem_append_right _ h))
theorem in_X1_moveOnce_X0 : ∀ w ∈ u_ws RX0 TX0 11, w ∈ wsX1_moveOnce := fun w h => List.mem_cons_of_mem _ (List.mem_append_right _ h)
theorem in_X1_moveIfBetter_X1 : ∀ w ∈ u_ws RX1 TX1 2, w ∈ wsX1_moveIfBetter := fun w h => List.mem_cons_of_mem _ (List.mem_append_left _ (List.mem_append_right _ h))
theorem in_X1_moveIfBetter_X0 : ∀ w ∈ u_ws RX0 TX0 11, w ∈ wsX1_moveIfBetter := fun w h => List.mem_cons_of_mem _ (List.mem_append_right _ h)
theorem in_X1_putByRule_X1 : ∀ w ∈ u_ws RX1 TX1 2, w ∈ wsX1_putByRule := fun w h => List.mem_cons_of_mem _ (List.mem_append_left _ (List.mem_append_right _ h))
theorem in_X1_putByRule_X0 : ∀ w ∈ u_ws RX0 TX0 11, w ∈ wsX1_putByRule := fun w h => List.mem_cons_of_mem _ (List.mem_append_right _ h)
theorem in_X1_someTaskIsTooMuch_X1 : ∀ w ∈ u_ws RX1 TX1 2, w ∈ wsX1_someTaskIsTooMuch := fun w h => List.mem_cons_of_mem _ (List.mem_append_left _ (List.mem_append_right _ h))
theorem in_X1_someTaskIsTooMuch_X0 : ∀ w ∈ u_ws RX0 TX0 11, w ∈ wsX1_someTaskIsTooMuch := fun w h => List.mem_cons_of_mem _ (List.mem_append_right _ h)
theorem in_X1_firstByRule_X1 : ∀ w ∈ u_ws RX1 TX1 2, w ∈ wsX1_firstByRule := fun w h => List.mem_cons_of_mem _ (List.mem_append_left _ (List.mem_append_right _ h))
theorem in_X1_firstByRule_X0 : ∀ w ∈ u_ws RX0 TX0 11, w ∈ wsX1_firstByRule := fun w h => List.mem_cons_of_mem _ (List.mem_append_right _ h)
theorem in_X1_worthByRule_X1 : ∀ w ∈ u_ws RX1 TX1 2, w ∈ wsX1_worthByRule := fun w h => List.mem_cons_of_mem _ (List.mem_append_left _ (List.mem_append_right _ h))
theorem in_X1_worthByRule_X0 : ∀ w ∈ u_ws RX0 TX0 11, w ∈ wsX1_worthByRule := fun w h => List.mem_cons_of_mem _ (List.mem_append_right _ h)
theorem in_X2_trace_X2 : ∀ w ∈ u_ws RX2 TX2 3, w ∈ wsX2_trace := fun w h => List.mem_cons_of_mem _ (List.mem_append_left _ (List.mem_append_right _ h))
theorem in_X2_trace_X0 : ∀ w ∈ u_ws RX0 TX0 11, w ∈ wsX2_trace := fun w h => List.mem_cons_of_mem _ (List.mem_append_right _ h)
theorem in_X2_layersUpTo_X2 : ∀ w ∈ u_ws RX2 TX2 3, w ∈ wsX2_layersUpTo := fun w h => List.mem_cons_of_mem _ (List.mem_append_left _ (List.mem_append_right _ h))
theorem in_X2_layersUpTo_X0 : ∀ w ∈ u_ws RX0 TX0 11, w ∈ wsX2_layersUpTo := fun w h => List.mem_cons_of_mem _ (List.mem_append_right _ h)
theorem in_X2_leastStep_X0 : ∀ w ∈ u_ws RX0 TX0 11, w ∈ wsX2_leastStep := fun w h => List.mem_cons_of_mem _ (List.mem_append_right _ h)
theorem in_X3_leastLength_X3 : ∀ w ∈ u_ws RX3 TX3 11, w ∈ wsX3_leastLength := fun w h => List.mem_cons_of_mem _ (List.mem_append_left _ (List.mem_append_right _ h))
theorem in_X3_leastLength_X0 : ∀ w ∈ u_ws RX0 TX0 11, w ∈ wsX3_leastLength := fun w h => List.mem_cons_of_mem _ (List.mem_append_right _ h)
theorem in_X3_leastBeatFor_X3 : ∀ w ∈ u_ws RX3 TX3 11, w ∈ wsX3_leastBeatFor := fun w h => List.mem_cons_of_mem _ (List.mem_append_left _ (List.mem_append_right _ h))
theorem in_X3_leastBeatFor_X0 : ∀ w ∈ u_ws RX0 TX0 11, w ∈ wsX3_leastBeatFor := fun w h => List.mem_cons_of_mem _ (List.mem_append_right _ h)
theorem in_X3_waysFor_X3 : ∀ w ∈ u_ws RX3 TX3 11, w ∈ wsX3_waysFor := fun w h => List.mem_cons_of_mem _ (List.mem_append_right _ h)
theorem in_X3_costFor_X3 : ∀ w ∈ u_ws RX3 TX3 11, w ∈ wsX3_costFor := fun w h => List.mem_cons_of_mem _ (List.mem_append_right _ h)
theorem in_X3_putFirst_X3 : ∀ w ∈ u_ws RX3 TX3 11, w ∈ wsX3_putFirst := fun w h => List.mem_cons_of_mem _ (List.mem_append_left _ (List.mem_append_right _ h))
theorem in_X3_putFirst_X0 : ∀ w ∈ u_ws RX0 TX0 11, w ∈ wsX3_putFirst := fun w h => List.mem_cons_of_mem _ (List.mem_append_right _ h)
theorem in_X3_firstSet_X3 : ∀ w ∈ u_ws RX3 TX3 11, w ∈ wsX3_firstSet := fun w h => List.mem_cons_of_mem _ (List.mem_append_right _ h)
theorem in_X3_prepare_X3 : ∀ w ∈ u_ws RX3 TX3 11, w ∈ wsX3_prepare := fun w h => List.mem_cons_of_mem _ (List.mem_append_left _ (List.mem_append_right _ h))
theorem in_X3_prepare_X0 : ∀ w ∈ u_ws RX0 TX0 11, w ∈ wsX3_prepare := fun w h => List.mem_cons_of_mem _ (List.mem_append_right _ h)
theorem in_X3_fillLoads_X3 : ∀ w ∈ u_ws RX3 TX3 11, w ∈ wsX3_fillLoads := fun w h => List.mem_cons_of_mem _ (List.mem_append_left _ (List.mem_append_right _ h))
theorem in_X3_fillLoads_X0 : ∀ w ∈ u_ws RX0 TX0 11, w ∈ wsX3_fillLoads := fun w h => List.mem_cons_of_mem _ (List.mem_append_right _ h)
theorem in_X3_joinLoads_X3 : ∀ w ∈ u_ws RX3 TX3 11, w ∈ wsX3_joinLoads := fun w h => List.mem_cons_of_mem _ (List.mem_append_left _ (List.mem_append_right _ h))
theorem in_X3_joinLoads_X0 : ∀ w ∈ u_ws RX0 TX0 11, w ∈ wsX3_joinLoads := fun w h => List.mem_cons_of_mem _ (List.mem_append_right _ h)
theorem in_X3_fillAllowed_X3 : ∀ w ∈ u_ws RX3 TX3 11, w ∈ wsX3_fillAllowed := fun w h => List.mem_cons_of_mem _ (List.mem_append_left _ (List.mem_append_right _ h))
theorem in_X3_fillAllowed_X0 : ∀ w ∈ u_ws RX0 TX0 11, w ∈ wsX3_fillAllowed := fun w h => List.mem_cons_of_mem _ (List.mem_append_right _ h)
theorem in_X3_isFine_X3 : ∀ w ∈ u_ws RX3 TX3 11, w ∈ wsX3_isFine := fun w h => List.mem_cons_of_mem _ (List.mem_append_left _ (List.mem_append_right _ h))
theorem in_X3_isFine_X0 : ∀ w ∈ u_ws RX0 TX0 11, w ∈ wsX3_isFine := fun w h => List.mem_cons_of_mem _ (List.mem_append_right _ h)
theorem in_X3_lengthWithin_X3 : ∀ w ∈ u_ws RX3 TX3 11, w ∈ wsX3_lengthWithin := fun w h => List.mem_cons_of_mem _ (List.mem_append_right _ h)
theorem in_X3_spread_X3 : ∀ w ∈ u_ws RX3 TX3 11, w ∈ wsX3_spread := fun w h => List.mem_cons_of_mem _ (List.mem_append_right _ h)
theorem in_X3_lookBack_X3 : ∀ w ∈ u_ws RX3 TX3 11, w ∈ wsX3_lookBack := fun w h => List.mem_cons_of_mem _ (List.mem_append_right _ h)
theorem in_X3_latestOf_X3 : ∀ w ∈ u_ws RX3 TX3 11, w ∈ wsX3_latestOf := fun w h => List.mem_cons_of_mem _ (List.mem_append_right _ h)
theorem in_X3_weigh_X3 : ∀ w ∈ u_ws RX3 TX3 11, w ∈ wsX3_weigh := fun w h => List.mem_cons_of_mem _ (List.mem_append_right _ h)
theorem in_X3_weighState_X3 : ∀ w ∈ u_ws RX3 TX3 11, w ∈ wsX3_weighState := fun w h => List.mem_cons_of_mem _ (List.mem_append_right _ h)
theorem in_X4_isMissing_X4 : ∀ w ∈ u_ws RX4 TX4 3, w ∈ wsX4_isMissing := fun w h => List.mem_cons_of_mem _ (List.mem_append_right _ h)
theorem in_X4_lay_X4 : ∀ w ∈ u_ws RX4 TX4 3, w ∈ wsX4_lay := fun w h => List.mem_cons_of_mem _ (List.mem_append_right _ h)
theorem in_X4_drop_X4 : ∀ w ∈ u_ws RX4 TX4 3, w ∈ wsX4_drop := fun w h => List.mem_cons_of_mem _ (List.mem_append_right _ h)
theorem in_X5_task_X5 : ∀ w ∈ u_ws RX5 TX5 12, w ∈ wsX5_task := fun w h => List.mem_cons_of_mem _ (List.mem_append_left _ (List.mem_append_left _ (List.mem_append_right _ h)))
theorem in_X5_task_X0 : ∀ w ∈ u_ws RX0 TX0 11, w ∈ wsX5_task := fun w h => List.mem_cons_of_mem _ (List.mem_append_left _ (List.mem_append_right _ h))
theorem in_X5_task_X1 : ∀ w ∈ u_ws RX1 TX1 2, w ∈ wsX5_task := fun w h => List.mem_cons_of_mem _ (List.mem_append_right _ h)
theorem in_X5_time_X5 : ∀ w ∈ u_ws RX5 TX5 12, w ∈ wsX5_time := fun w h => List.mem_cons_of_mem _ (List.mem_append_left _ (List.mem_append_right _ h))
theorem in_X5_time_X0 : ∀ w ∈ u_ws RX0 TX0 11, w ∈ wsX5_time := fun w h => List.mem_cons_of_mem _ (List.mem_append_right _ h)
theorem in_X5_share_X5 : ∀ w ∈ u_ws RX5 TX5 12, w ∈ wsX5_share := fun w h => List.mem_cons_of_mem _ (List.mem_append_left _ (List.mem_append_right _ h))
theorem in_X5_share_X0 : ∀ w ∈ u_ws RX0 TX0 11, w ∈ wsX5_share := fun w h => List.mem_cons_of_mem _ (List.mem_append_right _ h)
theorem in_X5_ahead_X5 : ∀ w ∈ u_ws RX5 TX5 12, w ∈ wsX5_ahead := fun w h => List.mem_cons_of_mem _ (List.mem_append_left _ (List.mem_append_left _ (List.mem_append_right _ h)))
theorem in_X5_ahead_X0 : ∀ w ∈ u_ws RX0 TX0 11, w ∈ wsX5_ahead := fun w h => List.mem_cons_of_mem _ (List.mem_append_left _ (List.mem_append_right _ h))
theorem in_X5_ahead_X2 : ∀ w ∈ u_ws RX2 TX2 3, w ∈ wsX5_ahead := fun w h => List.mem_cons_of_mem _ (List.mem_append_right _ h)
theorem in_X5_free_X5 : ∀ w ∈ u_ws RX5 TX5 12, w ∈ wsX5_free := fun w h => List.mem_cons_of_mem _ (List.mem_append_left _ (List.mem_append_right _ h))
theorem in_X5_free_X0 : ∀ w ∈ u_ws RX0 TX0 11, w ∈ wsX5_free := fun w h => List.mem_cons_of_mem _ (List.mem_append_right _ h)
theorem in_X5_ring_X5 : ∀ w ∈ u_ws RX5 TX5 12, w ∈ wsX5_ring := fun w h => List.mem_cons_of_mem _ (List.mem_append_left _ (List.mem_append_right _ h))
theorem in_X5_ring_X2 : ∀ w ∈ u_ws RX2 TX2 3, w ∈ wsX5_ring := fun w h => List.mem_cons_of_mem _ (List.mem_append_right _ h)
theorem in_X5_pair_X5 : ∀ w ∈ u_ws RX5 TX5 12, w ∈ wsX5_pair := fun w h => List.mem_cons_of_mem _ (List.mem_append_left _ (List.mem_append_right _ h))
theorem in_X5_pair_X0 : ∀ w ∈ u_ws RX0 TX0 11, w ∈ wsX5_pair := fun w h => List.mem_cons_of_mem _ (List.mem_append_right _ h)
theorem in_X5_hold_X5 : ∀ w ∈ u_ws RX5 TX5 12, w ∈ wsX5_hold := fun w h => List.mem_cons_of_mem _ (List.mem_append_left _ (List.mem_append_right _ h))
theorem in_X5_hold_X0 : ∀ w ∈ u_ws RX0 TX0 11, w ∈ wsX5_hold := fun w h => List.mem_cons_of_mem _ (List.mem_append_right _ h)
theorem in_X5_line_X5 : ∀ w ∈ u_ws RX5 TX5 12, w ∈ wsX5_line := fun w h => List.mem_cons_of_mem _ (List.mem_append_left _ (List.mem_append_right _ h))
theorem in_X5_line_X0 : ∀ w ∈ u_ws RX0 TX0 11, w ∈ wsX5_line := fun w h => List.mem_cons_of_mem _ (List.mem_append_right _ h)
theorem in_X5_beat_X5 : ∀ w ∈ u_ws RX5 TX5 12, w ∈ wsX5_beat := fun w h => List.mem_cons_of_mem _ (List.mem_append_left _ (List.mem_append_right _ h))
theorem in_X5_beat_X0 : ∀ w ∈ u_ws RX0 TX0 11, w ∈ wsX5_beat := fun w h => List.mem_cons_of_mem _ (List.mem_append_right _ h)
theorem in_X5_of_X5 : ∀ w ∈ u_ws RX5 TX5 12, w ∈ wsX5_of := fun w h => List.mem_cons_of_mem _ (List.mem_append_left _ (List.mem_append_left _ (List.mem_append_right _ h)))
theorem in_X5_of_X0 : ∀ w ∈ u_ws RX0 TX0 11, w ∈ wsX5_of := fun w h => List.mem_cons_of_mem _ (List.mem_append_left _ (List.mem_append_right _ h))
theorem in_X5_of_X1 : ∀ w ∈ u_ws RX1 TX1 2, w ∈ wsX5_of := fun w h => List.mem_cons_of_mem _ (List.mem_append_right _ h)
theorem in_X5_put_X5 : ∀ w ∈ u_ws RX5 TX5 12, w ∈ wsX5_put := fun w h => List.mem_cons_of_mem _ (List.mem_append_left _ (List.mem_append_left _ (List.mem_append_right _ h)))
theorem in_X5_put_X1 : ∀ w ∈ u_ws RX1 TX1 2, w ∈ wsX5_put := fun w h => List.mem_cons_of_mem _ (List.mem_append_left _ (List.mem_append_right _ h))
theorem in_X5_put_X0 : ∀ w ∈ u_ws RX0 TX0 11, w ∈ wsX5_put := fun w h => List.mem_cons_of_mem _ (List.mem_append_right _ h)
theorem in_X5_cause_X5 : ∀ w ∈ u_ws RX5 TX5 12, w ∈ wsX5_cause := fun w h => List.mem_cons_of_mem _ (List.mem_append_left _ (List.mem_append_left _ (List.mem_append_right _ h)))
theorem in_X5_cause_X0 : ∀ w ∈ u_ws RX0 TX0 11, w ∈ wsX5_cause := fun w h => List.mem_cons_of_mem _ (List.mem_append_left _ (List.mem_append_right _ h))
theorem in_X5_cause_X1 : ∀ w ∈ u_ws RX1 TX1 2, w ∈ wsX5_cause := fun w h => List.mem_cons_of_mem _ (List.mem_append_right _ h)
theorem in_X5_clash_X5 : ∀ w ∈ u_ws RX5 TX5 12, w ∈ wsX5_clash := fun w h => List.mem_cons_of_mem _ (List.mem_append_left _ (List.mem_append_left _ (List.mem_append_right _ h)))
theorem in_X5_clash_X1 : ∀ w ∈ u_ws RX1 TX1 2, w ∈ wsX5_clash := fun w h => List.mem_cons_of_mem _ (List.mem_append_left _ (List.mem_append_right _ h))
theorem in_X5_clash_X0 : ∀ w ∈ u_ws RX0 TX0 11, w ∈ wsX5_clash := fun w h => List.mem_cons_of_mem _ (List.mem_append_right _ h)
theorem in_X5_station_X5 : ∀ w ∈ u_ws RX5 TX5 12, w ∈ wsX5_station := fun w h => List.mem_cons_of_mem _ (List.mem_append_left _ (List.mem_append_left _ (List.mem_append_right _ h)))
theorem in_X5_station_X1 : ∀ w ∈ u_ws RX1 TX1 2, w ∈ wsX5_station := fun w h => List.mem_cons_of_mem _ (List.mem_append_left _ (List.mem_append_right _ h))
theorem in_X5_station_X0 : ∀ w ∈ u_ws RX0 TX0 11, w ∈ wsX5_station := fun w h => List.mem_cons_of_mem _ (List.mem_append_right _ h)
theorem in_X5_length_X5 : ∀ w ∈ u_ws RX5 TX5 12, w ∈ wsX5_length := fun w h => List.mem_cons_of_mem _ (List.mem_append_left _ (List.mem_append_left _ (List.mem_append_right _ h)))
theorem in_X5_length_X1 : ∀ w ∈ u_ws RX1 TX1 2, w ∈ wsX5_length := fun w h => List.mem_cons_of_mem _ (List.mem_append_left _ (List.mem_append_right _ h))
theorem in_X5_length_X0 : ∀ w ∈ u_ws RX0 TX0 11, w ∈ wsX5_length := fun w h => List.mem_cons_of_mem _ (List.mem_append_right _ h)
theorem in_X5_squares_X5 : ∀ w ∈ u_ws RX5 TX5 12, w ∈ wsX5_squares := fun w h => List.mem_cons_of_mem _ (List.mem_append_left _ (List.mem_append_left _ (List.mem_append_right _ h)))
theorem in_X5_squares_X1 : ∀ w ∈ u_ws RX1 TX1 2, w ∈ wsX5_squares := fun w h => List.mem_cons_of_mem _ (List.mem_append_left _ (List.mem_append_right _ h))
theorem in_X5_squares_X0 : ∀ w ∈ u_ws RX0 TX0 11, w ∈ wsX5_squares := fun w h => List.mem_cons_of_mem _ (List.mem_append_right _ h)
theorem in_X5_fewest_X5 : ∀ w ∈ u_ws RX5 TX5 12, w ∈ wsX5_fewest := fun w h => List.mem_cons_of_mem _ (List.mem_append_left _ (List.mem_append_left _ (List.mem_append_right _ h)))
theorem in_X5_fewest_X3 : ∀ w ∈ u_ws RX3 TX3 11, w ∈ wsX5_fewest := fun w h => List.mem_cons_of_mem _ (List.mem_append_left _ (List.mem_append_right _ h))
theorem in_X5_fewest_X0 : ∀ w ∈ u_ws RX0 TX0 11, w ∈ wsX5_fewest := fun w h => List.mem_cons_of_mem _ (List.mem_append_right _ h)
theorem in_X5_many_X5 : ∀ w ∈ u_ws RX5 TX5 12, w ∈ wsX5_many := fun w h => List.mem_cons_of_mem _ (List.mem_append_left _ (List.mem_append_left _ (List.mem_append_right _ h)))
theorem in_X5_many_X3 : ∀ w ∈ u_ws RX3 TX3 11, w ∈ wsX5_many := fun w h => List.mem_cons_of_mem _ (List.mem_append_left _ (List.mem_append_right _ h))
theorem in_X5_many_X0 : ∀ w ∈ u_ws RX0 TX0 11, w ∈ wsX5_many := fun w h => List.mem_cons_of_mem _ (List.mem_append_right _ h)
theorem in_X5_best_X5 : ∀ w ∈ u_ws RX5 TX5 12, w ∈ wsX5_best := fun w h => List.mem_cons_of_mem _ (List.mem_append_left _ (List.mem_append_left _ (List.mem_append_left _ (List.mem_append_right _ h))))
theorem in_X5_best_X1 : ∀ w ∈ u_ws RX1 TX1 2, w ∈ wsX5_best := fun w h => List.mem_cons_of_mem _ (List.mem_append_left _ (List.mem_append_left _ (List.mem_append_right _ h)))
theorem in_X5_best_X3 : ∀ w ∈ u_ws RX3 TX3 11, w ∈ wsX5_best := fun w h => List.mem_cons_of_mem _ (List.mem_append_left _ (List.mem_append_right _ h))
theorem in_X5_best_X0 : ∀ w ∈ u_ws RX0 TX0 11, w ∈ wsX5_best := fun w h => List.mem_cons_of_mem _ (List.mem_append_right _ h)
theorem in_X5_evenest_X5 : ∀ w ∈ u_ws RX5 TX5 12, w ∈ wsX5_evenest := fun w h => List.mem_cons_of_mem _ (List.mem_append_left _ (List.mem_append_left _ (List.mem_append_right _ h)))
theorem in_X5_evenest_X3 : ∀ w ∈ u_ws RX3 TX3 11, w ∈ wsX5_evenest := fun w h => List.mem_cons_of_mem _ (List.mem_append_left _ (List.mem_append_right _ h))
theorem in_X5_evenest_X0 : ∀ w ∈ u_ws RX0 TX0 11, w ∈ wsX5_evenest := fun w h => List.mem_cons_of_mem _ (List.mem_append_right _ h)
theorem in_X5_leastBeat_X5 : ∀ w ∈ u_ws RX5 TX5 12, w ∈ wsX5_leastBeat := fun w h => List.mem_cons_of_mem _ (List.mem_append_left _ (List.mem_append_left _ (List.mem_append_right _ h)))
theorem in_X5_leastBeat_X3 : ∀ w ∈ u_ws RX3 TX3 11, w ∈ wsX5_leastBeat := fun w h => List.mem_cons_of_mem _ (List.mem_append_left _ (List.mem_append_right _ h))
theorem in_X5_leastBeat_X0 : ∀ w ∈ u_ws RX0 TX0 11, w ∈ wsX5_leastBeat := fun w h => List.mem_cons_of_mem _ (List.mem_append_right _ h)
theorem in_X5_bound_X5 : ∀ w ∈ u_ws RX5 TX5 12, w ∈ wsX5_bound := fun w h => List.mem_cons_of_mem _ (List.mem_append_left _ (List.mem_append_right _ h))
theorem in_X5_bound_X0 : ∀ w ∈ u_ws RX0 TX0 11, w ∈ wsX5_bound := fun w h => List.mem_cons_of_mem _ (List.mem_append_right _ h)
theorem in_X5_early_X5 : ∀ w ∈ u_ws RX5 TX5 12, w ∈ wsX5_early := fun w h => List.mem_cons_of_mem _ (List.mem_append_left _ (List.mem_append_right _ h))
theorem in_X5_early_X0 : ∀ w ∈ u_ws RX0 TX0 11, w ∈ wsX5_early := fun w h => List.mem_cons_of_mem _ (List.mem_append_right _ h)
theorem in_X5_late_X5 : ∀ w ∈ u_ws RX5 TX5 12, w ∈ wsX5_late := fun w h => List.mem_cons_of_mem _ (List.mem_append_left _ (List.mem_append_right _ h))
theorem in_X5_late_X0 : ∀ w ∈ u_ws RX0 TX0 11, w ∈ wsX5_late := fun w h => List.mem_cons_of_mem _ (List.mem_append_right _ h)
theorem in_X5_rule_X5 : ∀ w ∈ u_ws RX5 TX5 12, w ∈ wsX5_rule := fun w h => List.mem_cons_of_mem _ (List.mem_append_left _ (List.mem_append_left _ (List.mem_append_right _ h)))
theorem in_X5_rule_X1 : ∀ w ∈ u_ws RX1 TX1 2, w ∈ wsX5_rule := fun w h => List.mem_cons_of_mem _ (List.mem_append_left _ (List.mem_append_right _ h))
theorem in_X5_rule_X0 : ∀ w ∈ u_ws RX0 TX0 11, w ∈ wsX5_rule := fun w h => List.mem_cons_of_mem _ (List.mem_append_right _ h)
theorem in_X5_better_X5 : ∀ w ∈ u_ws RX5 TX5 12, w ∈ wsX5_better := fun w h => List.mem_cons_of_mem _ (List.mem_append_left _ (List.mem_append_left _ (List.mem_append_right _ h)))
theorem in_X5_better_X1 : ∀ w ∈ u_ws RX1 TX1 2, w ∈ wsX5_better := fun w h => List.mem_cons_of_mem _ (List.mem_append_left _ (List.mem_append_right _ h))
theorem in_X5_better_X0 : ∀ w ∈ u_ws RX0 TX0 11, w ∈ wsX5_better := fun w h => List.mem_cons_of_mem _ (List.mem_append_right _ h)
theorem in_X5_sheet_X5 : ∀ w ∈ u_ws RX5 TX5 12, w ∈ wsX5_sheet := fun w h => List.mem_cons_of_mem _ (List.mem_append_left _ (List.mem_append_right _ h))
theorem in_X5_sheet_X4 : ∀ w ∈ u_ws RX4 TX4 3, w ∈ wsX5_sheet := fun w h => List.mem_cons_of_mem _ (List.mem_append_right _ h)
theorem in_X5_write_X5 : ∀ w ∈ u_ws RX5 TX5 12, w ∈ wsX5_write := fun w h => List.mem_cons_of_mem _ (List.mem_append_left _ (List.mem_append_right _ h))
theorem in_X5_write_X4 : ∀ w ∈ u_ws RX4 TX4 3, w ∈ wsX5_write := fun w h => List.mem_cons_of_mem _ (List.mem_append_right _ h)
theorem in_X5_take_X5 : ∀ w ∈ u_ws RX5 TX5 12, w ∈ wsX5_take := fun w h => List.mem_cons_of_mem _ (List.mem_append_left _ (List.mem_append_left _ (List.mem_append_right _ h)))
theorem in_X5_take_X4 : ∀ w ∈ u_ws RX4 TX4 3, w ∈ wsX5_take := fun w h => List.mem_cons_of_mem _ (List.mem_append_left _ (List.mem_append_right _ h))
theorem in_X5_take_X0 : ∀ w ∈ u_ws RX0 TX0 11, w ∈ wsX5_take := fun w h => List.mem_cons_of_mem _ (List.mem_append_right _ h)
theorem in_X5_lose_X5 : ∀ w ∈ u_ws RX5 TX5 12, w ∈ wsX5_lose := fun w h => List.mem_cons_of_mem _ (List.mem_append_left _ (List.mem_append_right _ h))
theorem in_X5_lose_X4 : ∀ w ∈ u_ws RX4 TX4 3, w ∈ wsX5_lose := fun w h => List.mem_cons_of_mem _ (List.mem_append_right _ h)
theorem in_X5_tell_X5 : ∀ w ∈ u_ws RX5 TX5 12, w ∈ wsX5_tell := fun w h => List.mem_cons_of_mem _ (List.mem_append_right _ h)
theorem in_X5_check_X5 : ∀ w ∈ u_ws RX5 TX5 12, w ∈ wsX5_check := fun w h => List.mem_cons_of_mem _ (List.mem_append_left _ (List.mem_append_left _ (List.mem_append_right _ h)))
theorem in_X5_check_X0 : ∀ w ∈ u_ws RX0 TX0 11, w ∈ wsX5_check := fun w h => List.mem_cons_of_mem _ (List.mem_append_left _ (List.mem_append_right _ h))
theorem in_X5_check_X1 : ∀ w ∈ u_ws RX1 TX1 2, w ∈ wsX5_check := fun w h => List.mem_cons_of_mem _ (List.mem_append_right _ h)
theorem in_X5_keep_X5 : ∀ w ∈ u_ws RX5 TX5 12, w ∈ wsX5_keep := fun w h => List.mem_cons_of_mem _ (List.mem_append_left _ (List.mem_append_left _ (List.mem_append_right _ h)))
theorem in_X5_keep_X0 : ∀ w ∈ u_ws RX0 TX0 11, w ∈ wsX5_keep := fun w h => List.mem_cons_of_mem _ (List.mem_append_left _ (List.mem_append_right _ h))
theorem in_X5_keep_X1 : ∀ w ∈ u_ws RX1 TX1 2, w ∈ wsX5_keep := fun w h => List.mem_cons_of_mem _ (List.mem_append_right _ h)
theorem in_X5_back_X5 : ∀ w ∈ u_ws RX5 TX5 12, w ∈ wsX5_back := fun w h => List.mem_cons_of_mem _ (List.mem_append_left _ (List.mem_append_left _ (List.mem_append_right _ h)))
theorem in_X5_back_X0 : ∀ w ∈ u_ws RX0 TX0 11, w ∈ wsX5_back := fun w h => List.mem_cons_of_mem _ (List.mem_append_left _ (List.mem_append_right _ h))
theorem in_X5_back_X1 : ∀ w ∈ u_ws RX1 TX1 2, w ∈ wsX5_back := fun w h => List.mem_cons_of_mem _ (List.mem_append_right _ h)
theorem in_X5_count_X5 : ∀ w ∈ u_ws RX5 TX5 12, w ∈ wsX5_count := fun w h => List.mem_cons_of_mem _ (List.mem_append_left _ (List.mem_append_right _ h))
theorem in_X5_count_X0 : ∀ w ∈ u_ws RX0 TX0 11, w ∈ wsX5_count := fun w h => List.mem_cons_of_mem _ (List.mem_append_right _ h)
theorem in_X5_found_X5 : ∀ w ∈ u_ws RX5 TX5 12, w ∈ wsX5_found := fun w h => List.mem_cons_of_mem _ (List.mem_append_right _ h)
theorem in_X5_stationsFor_X5 : ∀ w ∈ u_ws RX5 TX5 12, w ∈ wsX5_stationsFor := fun w h => List.mem_cons_of_mem _ (List.mem_append_left _ (List.mem_append_right _ h))
theorem in_X5_stationsFor_X0 : ∀ w ∈ u_ws RX0 TX0 11, w ∈ wsX5_stationsFor := fun w h => List.mem_cons_of_mem _ (List.mem_append_right _ h)
