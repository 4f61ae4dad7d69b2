def enM (cy : Nat → ClassId) : bN := fun q z k => match k with
  | 0 => .inr (6, [.int (z.1 0), .ref (q 1), .ref (q 2), .ref (q 3), .ref (q 4), .ref (q 5), .ref (q 6), .int (z.1 1), .int (z.1 2), .int (z.1 3), .ref (q 7), .int (z.1 4), .ref (q 8), .ref (q 9), .ref (q 10), .ref (q 11), .int (z.1 5), .ref (q 12), .int (z.1 6), .ref (q 13), .ref (q 14), .ref (q 15), .ref (q 16), .ref (q 17), .ref (q 18), .ref (q 19), .ref (q 20), .ref (q 21), .ref (q 22)])
  | 1 => .inl (cy 0, 30, .inl (z.2.1 1))
  | 2 => .inl (cy 0, 3, .inl (z.2.1 2))
  | 3 => .inl (cy 0, 10, .inl (z.2.1 3))
  | 4 => .inl (cy 0, 100, .inl (z.2.1 4))
  | 5 => .inl (cy 0, 10, .inl (z.2.1 5))
  | 6 => .inl (cy 0, 10, .inl (z.2.1 6))
  | 7 => .inl (cy 0, 11, .inl (z.2.1 7))
  | 8 => .inl (cy 0, 180, .inl (z.2.1 8))
  | 9 => .inl (cy 0, 4, .inl (z.2.1 9))
  | 10 => .inl (cy 0, 4, .inl (z.2.1 10))
  | 11 => .inl (cy 0, 160, .inl (z.2.1 11))
  | 12 => .inl (cy 0, 20, .inl (z.2.1 12))
  | 13 => .inl (cy 0, 10, .inl (z.2.1 13))
  | 14 => .inl (cy 2, 1024, .inl (z.2.1 14))
  | 15 => .inl (cy 0, 1024, .inl (z.2.1 15))
  | 16 => .inl (cy 0, 1024, .inl (z.2.1 16))
  | 17 => .inl (cy 0, 10, .inl (z.2.1 17))
  | 18 => .inl (cy 0, 10, .inl (z.2.1 18))
  | 19 => .inl (cy 1, 11264, .inr (.inl (z.2.2 19)))
  | 20 => .inl (cy 1, 11264, .inr (.inl (z.2.2 20)))
  | 21 => .inl (cy 0, 10, .inl (z.2.1 21))
  | 22 => .inl (cy 0, 3, .inl (z.2.1 22))
  | _ => .inl (cy 0, 0, .inl (fun _ => 0))
theorem enM_A (cy : Nat → ClassId) (q : Nat → Nat) (z : zS) (k : Nat) (f : Nat → Int32) : ∀ j, j < 23 → j ≠ k → enM cy q (upA z k f) j = enM cy q z j
  | 0, _, _ => rfl
  | 1, _, h => congrArg (fun g => (.inl (cy 0, 30, .inl g) : va_E)) (va_up_ne _ _ h)
  | 2, _, h => congrArg (fun g => (.inl (cy 0, 3, .inl g) : va_E)) (va_up_ne _ _ h)
  | 3, _, h => congrArg (fun g => (.inl (cy 0, 10, .inl g) : va_E)) (va_up_ne _ _ h)
  | 4, _, h => congrArg (fun g => (.inl (cy 0, 100, .inl g) : va_E)) (va_up_ne _ _ h)
  | 5, _, h => congrArg (fun g => (.inl (cy 0, 10, .inl g) : va_E)) (va_up_ne _ _ h)
  | 6, _, h => congrArg (fun g => (.inl (cy 0, 10, .inl g) : va_E)) (va_up_ne _ _ h)
  | 7, _, h => congrArg (fun g => (.inl (cy 0, 11, .inl g) : va_E)) (va_up_ne _ _ h)
  | 8, _, h => congrArg (fun g => (.inl (cy 0, 180, .inl g) : va_E)) (va_up_ne _ _ h)
  | 9, _, h => congrArg (fun g => (.inl (cy 0, 4, .inl g) : va_E)) (va_up_ne _ _ h)
  | 10, _, h => congrArg (fun g => (.inl (cy 0, 4, .inl g) : va_E)) (va_up_ne _ _ h)
  | 11, _, h => congrArg (fun g => (.inl (cy 0, 160, .inl g) : va_E)) (va_up_ne _ _ h)
  | 12, _, h => congrArg (fun g => (.inl (cy 0, 20, .inl g) : va_E)) (va_up_ne _ _ h)
  | 13, _, h => congrArg (fun g => (.inl (cy 0, 10, .inl g) : va_E)) (va_up_ne _ _ h)
  | 14, _, h => congrArg (fun g => (.inl (cy 2, 1024, .inl g) : va_E)) (va_up_ne _ _ h)
  | 15, _, h => congrArg (fun g => (.inl (cy 0, 1024, .inl g) : va_E)) (va_up_ne _ _ h)
  | 16, _, h => congrArg (fun g => (.inl (cy 0, 1024, .inl g) : va_E)) (va_up_ne _ _ h)
  | 17, _, h => congrArg (fun g => (.inl (cy 0, 10, .inl g) : va_E)) (va_up_ne _ _ h)
  | 18, _, h => congrArg (fun g => (.inl (cy 0, 10, .inl g) : va_E)) (va_up_ne _ _ h)
  | 19, _, _ => rfl
  | 20, _, _ => rfl
  | 21, _, h => congrArg (fun g => (.inl (cy 0, 10, .inl g) : va_E)) (va_up_ne _ _ h)
  | 22, _, h => congrArg (fun g => (.inl (cy 0, 3, .inl g) : va_E)) (va_up_ne _ _ h)
  | n + 23, h, _ => absurd h (by omega)
theorem enM_L (cy : Nat → ClassId) (q : Nat → Nat) (z : zS) (k : Nat) (f : Nat → Int64) : ∀ j, j < 23 → j ≠ k → enM cy q (upL z k f) j = enM cy q z j
  | 0, _, _ => rfl
  | 1, _, _ => rfl
  | 2, _, _ => rfl
  | 3, _, _ => rfl
  | 4, _, _ => rfl
  | 5, _, _ => rfl
  | 6, _, _ => rfl
  | 7, _, _ => rfl
  | 8, _, _ => rfl
  | 9, _, _ => rfl
  | 10, _, _ => rfl
  | 11, _, _ => rfl
  | 12, _, _ => rfl
  | 13, _, _ => rfl
  | 14, _, _ => rfl
  | 15, _, _ => rfl
  | 16, _, _ => rfl
  | 17, _, _ => rfl
  | 18, _, _ => rfl
  | 19, _, h => congrArg (fun g => (.inl (cy 1, 11264, .inr (.inl g)) : va_E)) (va_up_ne _ _ h)
  | 20, _, h => congrArg (fun g => (.inl (cy 1, 11264, .inr (.inl g)) : va_E)) (va_up_ne _ _ h)
  | 21, _, _ => rfl
  | 22, _, _ => rfl
  | n + 23, h, _ => absurd h (by omega)
theorem enM_S0 (cy : Nat → ClassId) (q : Nat → Nat) (z : zS) (v : Int32) : ∀ j, j < 23 → j ≠ 0 → enM cy q (upS z 0 v) j = enM cy q z j
  | 0, _, h => absurd rfl h
  | 1, _, h => rfl
  | 2, _, h => rfl
  | 3, _, h => rfl
  | 4, _, h => rfl
  | 5, _, h => rfl
  | 6, _, h => rfl
  | 7, _, h => rfl
  | 8, _, h => rfl
  | 9, _, h => rfl
  | 10, _, h => rfl
  | 11, _, h => rfl
  | 12, _, h => rfl
  | 13, _, h => rfl
  | 14, _, h => rfl
  | 15, _, h => rfl
  | 16, _, h => rfl
  | 17, _, h => rfl
  | 18, _, h => rfl
  | 19, _, h => rfl
  | 20, _, h => rfl
  | 21, _, h => rfl
  | 22, _, h => rfl
  | n + 23, h, _ => absurd h (by omega)
theorem enM_S1 (cy : Nat → ClassId) (q : Nat → Nat) (z : zS) (v : Int32) : ∀ j, j < 23 → j ≠ 0 → enM cy q (upS z 1 v) j = enM cy q z j
  | 0, _, h => absurd rfl h
  | 1, _, h => rfl
  | 2, _, h => rfl
  | 3, _, h => rfl
  | 4, _, h => rfl
  | 5, _, h => rfl
  | 6, _, h => rfl
  | 7, _, h => rfl
  | 8, _, h => rfl
  | 9, _, h => rfl
  | 10, _, h => rfl
  | 11, _, h => rfl
  | 12, _, h => rfl
  | 13, _, h => rfl
  | 14, _, h => rfl
  | 15, _, h => rfl
  | 16, _, h => rfl
  | 17, _, h => rfl
  | 18, _, h => rfl
  | 19, _, h => rfl
  | 20, _, h => rfl
  | 21, _, h => rfl
  | 22, _, h => rfl
  | n + 23, h, _ => absurd h (by omega)
theorem enM_S2 (cy : Nat → ClassId) (q : Nat → Nat) (z : zS) (v : Int32) : ∀ j, j < 23 → j ≠ 0 → enM cy q (upS z 2 v) j = enM cy q z j
  | 0, _, h => absurd rfl h
  | 1, _, h => rfl
  | 2, _, h => rfl
  | 3, _, h => rfl
  | 4, _, h => rfl
  | 5, _, h => rfl
  | 6, _, h => rfl
  | 7, _, h => rfl
  | 8, _, h => rfl
  | 9, _, h => rfl
  | 10, _, h => rfl
  | 11, _, h => rfl
  | 12, _, h => rfl
  | 13, _, h => rfl
  | 14, _, h => rfl
  | 15, _, h => rfl
  | 16, _, h => rfl
  | 17, _, h => rfl
  | 18, _, h => rfl
  | 19, _, h => rfl
  | 20, _, h => rfl
  | 21, _, h => rfl
  | 22, _, h => rfl
  | n + 23, h, _ => absurd h (by omega)
theorem enM_S3 (cy : Nat → ClassId) (q : Nat → Nat) (z : zS) (v : Int32) : ∀ j, j < 23 → j ≠ 0 → enM cy q (upS z 3 v) j = enM cy q z j
  | 0, _, h => absurd rfl h
  | 1, _, h => rfl
  | 2, _, h => rfl
  | 3, _, h => rfl
  | 4, _, h => rfl
  | 5, _, h => rfl
  | 6, _, h => rfl
  | 7, _, h => rfl
  | 8, _, h => rfl
  | 9, _, h => rfl
  | 10, _, h => rfl
  | 11, _, h => rfl
  | 12, _, h => rfl
  | 13, _, h => rfl
  | 14, _, h => rfl
  | 15, _, h => rfl
  | 16, _, h => rfl
  | 17, _, h => rfl
  | 18, _, h => rfl
  | 19, _, h => rfl
  | 20, _, h => rfl
  | 21, _, h => rfl
  | 22, _, h => rfl
  | n + 23, h, _ => absurd h (by omega)
theorem enM_S4 (cy : Nat → ClassId) (q : Nat → Nat) (z : zS) (v : Int32) : ∀ j, j < 23 → j ≠ 0 → enM cy q (upS z 4 v) j = enM cy q z j
  | 0, _, h => absurd rfl h
  | 1, _, h => rfl
  | 2, _, h => rfl
  | 3, _, h => rfl
  | 4, _, h => rfl
  | 5, _, h => rfl
  | 6, _, h => rfl
  | 7, _, h => rfl
  | 8, _, h => rfl
  | 9, _, h => rfl
  | 10, _, h => rfl
  | 11, _, h => rfl
  | 12, _, h => rfl
  | 13, _, h => rfl
  | 14, _, h => rfl
  | 15, _, h => rfl
  | 16, _, h => rfl
  | 17, _, h => rfl
  | 18, _, h => rfl
  | 19, _, h => rfl
  | 20, _, h => rfl
  | 21, _, h => rfl
  | 22, _, h => rfl
  | n + 23, h, _ => absurd h (by omega)
theorem enM_S5 (cy : Nat → ClassId) (q : Nat → Nat) (z : zS) (v : Int32) : ∀ j, j < 23 → j ≠ 0 → enM cy q (upS z 5 v) j = enM cy q z j
  | 0, _, h => absurd rfl h
  | 1, _, h => rfl
  | 2, _, h => rfl
  | 3, _, h => rfl
  | 4, _, h => rfl
  | 5, _, h => rfl
  | 6, _, h => rfl
  | 7, _, h => rfl
  | 8, _, h => rfl
  | 9, _, h => rfl
  | 10, _, h => rfl
  | 11, _, h => rfl
  | 12, _, h => rfl
  | 13, _, h => rfl
  | 14, _, h => rfl
  | 15, _, h => rfl
  | 16, _, h => rfl
  | 17, _, h => rfl
  | 18, _, h => rfl
  | 19, _, h => rfl
  | 20, _, h => rfl
  | 21, _, h => rfl
  | 22, _, h => rfl
  | n + 23, h, _ => absurd h (by omega)
theorem enM_S6 (cy : Nat → ClassId) (q : Nat → Nat) (z : zS) (v : Int32) : ∀ j, j < 23 → j ≠ 0 → enM cy q (upS z 6 v) j = enM cy q z j
  | 0, _, h => absurd rfl h
  | 1, _, h => rfl
  | 2, _, h => rfl
  | 3, _, h => rfl
  | 4, _, h => rfl
  | 5, _, h => rfl
  | 6, _, h => rfl
  | 7, _, h => rfl
  | 8, _, h => rfl
  | 9, _, h => rfl
  | 10, _, h => rfl
  | 11, _, h => rfl
  | 12, _, h => rfl
  | 13, _, h => rfl
  | 14, _, h => rfl
  | 15, _, h => rfl
  | 16, _, h => rfl
  | 17, _, h => rfl
  | 18, _, h => rfl
  | 19, _, h => rfl
  | 20, _, h => rfl
  | 21, _, h => rfl
  | 22, _, h => rfl
  | n + 23, h, _ => absurd h (by omega)
def Fm (z : zS) : Prop := z.1 0 = 0 ∧ z.1 1 = 0 ∧ z.1 3 = 0 ∧ z.1 4 = 0 ∧ z.1 5 = 0 ∧ z.1 6 = 0 ∧ z.2.1 2 0 = 1 ∧ z.2.1 2 1 = 0 ∧ z.2.1 2 2 = 0 ∧ (∀ j : Nat, j < 4 → z.2.1 10 j = -1)
theorem Fm_0 {z : zS} (h : Fm z) : z.1 0 = 0 := h.1
theorem Fm_1 {z : zS} (h : Fm z) : z.1 1 = 0 := h.2.1
theorem Fm_2 {z : zS} (h : Fm z) : z.1 3 = 0 := h.2.2.1
theorem Fm_3 {z : zS} (h : Fm z) : z.1 4 = 0 := h.2.2.2.1
theorem Fm_4 {z : zS} (h : Fm z) : z.1 5 = 0 := h.2.2.2.2.1
theorem Fm_5 {z : zS} (h : Fm z) : z.1 6 = 0 := h.2.2.2.2.2.1
theorem Fm_6 {z : zS} (h : Fm z) : z.2.1 2 0 = 1 := h.2.2.2.2.2.2.1
theorem Fm_7 {z : zS} (h : Fm z) : z.2.1 2 1 = 0 := h.2.2.2.2.2.2.2.1
theorem Fm_8 {z : zS} (h : Fm z) : z.2.1 2 2 = 0 := h.2.2.2.2.2.2.2.2.1
theorem Fm_9 {z : zS} (h : Fm z) : (∀ j : Nat, j < 4 → z.2.1 10 j = -1) := h.2.2.2.2.2.2.2.2.2
theorem in_X6_init_X6 : ∀ w ∈ u_ws RX6 TX6 29, w ∈ wsX6_init := fun w h => List.mem_cons_of_mem _ (List.mem_append_right _ h)
theorem in_X6_meet_X6 : ∀ w ∈ u_ws RX6 TX6 29, w ∈ wsX6_meet := fun w h => List.mem_cons_of_mem _ (List.mem_append_right _ h)
theorem in_X6_isTask_X6 : ∀ w ∈ u_ws RX6 TX6 29, w ∈ wsX6_isTask := fun w h => List.mem_cons_of_mem _ (List.mem_append_right _ h)
theorem in_X6_all_X6 : ∀ w ∈ u_ws RX6 TX6 29, w ∈ wsX6_all := fun w h => List.mem_cons_of_mem _ (List.mem_append_right _ h)
theorem in_X6_task_X6 : ∀ w ∈ u_ws RX6 TX6 29, w ∈ wsX6_task := fun w h => List.mem_cons_of_mem _ (List.mem_append_right _ h)
theorem in_X6_time_X6 : ∀ w ∈ u_ws RX6 TX6 29, w ∈ wsX6_time := fun w h => List.mem_cons_of_mem _ (List.mem_append_right _ h)
theorem in_X6_share_X6 : ∀ w ∈ u_ws RX6 TX6 29, w ∈ wsX6_share := fun w h => List.mem_cons_of_mem _ (List.mem_append_right _ h)
theorem in_X6_leading_X6 : ∀ w ∈ u_ws RX6 TX6 29, w ∈ wsX6_leading := fun w h => List.mem_cons_of_mem _ (List.mem_append_right _ h)
theorem in_X6_following_X6 : ∀ w ∈ u_ws RX6 TX6 29, w ∈ wsX6_following := fun w h => List.mem_cons_of_mem _ (List.mem_append_right _ h)
theorem in_X6_findRing_X6 : ∀ w ∈ u_ws RX6 TX6 29, w ∈ wsX6_findRing := fun w h => List.mem_cons_of_mem _ (List.mem_append_right _ h)
theorem in_X6_ahead_X6 : ∀ w ∈ u_ws RX6 TX6 29, w ∈ wsX6_ahead := fun w h => List.mem_cons_of_mem _ (List.mem_append_right _ h)
theorem in_X6_free_X6 : ∀ w ∈ u_ws RX6 TX6 29, w ∈ wsX6_free := fun w h => List.mem_cons_of_mem _ (List.mem_append_right _ h)
theorem in_X6_ring_X6 : ∀ w ∈ u_ws RX6 TX6 29, w ∈ wsX6_ring := fun w h => List.mem_cons_of_mem _ (List.mem_append_right _ h)
theorem in_X6_pair_X6 : ∀ w ∈ u_ws RX6 TX6 29, w ∈ wsX6_pair := fun w h => List.mem_cons_of_mem _ (List.mem_append_right _ h)
theorem in_X6_hold_X6 : ∀ w ∈ u_ws RX6 TX6 29, w ∈ wsX6_hold := fun w h => List.mem_cons_of_mem _ (List.mem_append_right _ h)
theorem in_X6_line_X6 : ∀ w ∈ u_ws RX6 TX6 29, w ∈ wsX6_line := fun w h => List.mem_cons_of_mem _ (List.mem_append_right _ h)
theorem in_X6_beat_X6 : ∀ w ∈ u_ws RX6 TX6 29, w ∈ wsX6_beat := fun w h => List.mem_cons_of_mem _ (List.mem_append_right _ h)
theorem in_X6_sumOf_X6 : ∀ w ∈ u_ws RX6 TX6 29, w ∈ wsX6_sumOf := fun w h => List.mem_cons_of_mem _ (List.mem_append_right _ h)
theorem in_X6_loadOf_X6 : ∀ w ∈ u_ws RX6 TX6 29, w ∈ wsX6_loadOf := fun w h => List.mem_cons_of_mem _ (List.mem_append_right _ h)
theorem in_X6_room_X6 : ∀ w ∈ u_ws RX6 TX6 29, w ∈ wsX6_room := fun w h => List.mem_cons_of_mem _ (List.mem_append_right _ h)
theorem in_X6_of_X6 : ∀ w ∈ u_ws RX6 TX6 29, w ∈ wsX6_of := fun w h => List.mem_cons_of_mem _ (List.mem_append_right _ h)
theorem in_X6_put_X6 : ∀ w ∈ u_ws RX6 TX6 29, w ∈ wsX6_put := fun w h => List.mem_cons_of_mem _ (List.mem_append_right _ h)
theorem in_X6_setAt_X6 : ∀ w ∈ u_ws RX6 TX6 29, w ∈ wsX6_setAt := fun w h => List.mem_cons_of_mem _ (List.mem_append_right _ h)
theorem in_X6_areUpTo_X6 : ∀ w ∈ u_ws RX6 TX6 29, w ∈ wsX6_areUpTo := fun w h => List.mem_cons_of_mem _ (List.mem_append_right _ h)
theorem in_X6_causeIn_X6 : ∀ w ∈ u_ws RX6 TX6 29, w ∈ wsX6_causeIn := fun w h => List.mem_cons_of_mem _ (List.mem_append_right _ h)
theorem in_X6_clashIn_X6 : ∀ w ∈ u_ws RX6 TX6 29, w ∈ wsX6_clashIn := fun w h => List.mem_cons_of_mem _ (List.mem_append_right _ h)
theorem in_X6_cause_X6 : ∀ w ∈ u_ws RX6 TX6 29, w ∈ wsX6_cause := fun w h => List.mem_cons_of_mem _ (List.mem_append_right _ h)
theorem in_X6_clash_X6 : ∀ w ∈ u_ws RX6 TX6 29, w ∈ wsX6_clash := fun w h => List.mem_cons_of_mem _ (List.mem_append_right _ h)
theorem in_X6_station_X6 : ∀ w ∈ u_ws RX6 TX6 29, w ∈ wsX6_station := fun w h => List.mem_cons_of_mem _ (List.mem_append_right _ h)
theorem in_X6_lengthOf_X6 : ∀ w ∈ u_ws RX6 TX6 29, w ∈ wsX6_lengthOf := fun w h => List.mem_cons_of_mem _ (List.mem_append_right _ h)
theorem in_X6_length_X6 : ∀ w ∈ u_ws RX6 TX6 29, w ∈ wsX6_length := fun w h => List.mem_cons_of_mem _ (List.mem_append_right _ h)
theorem in_X6_squaresOf_X6 : ∀ w ∈ u_ws RX6 TX6 29, w ∈ wsX6_squaresOf := fun w h => List.mem_cons_of_mem _ (List.mem_append_right _ h)
theorem in_X6_squares_X6 : ∀ w ∈ u_ws RX6 TX6 29, w ∈ wsX6_squares := fun w h => List.mem_cons_of_mem _ (List.mem_append_right _ h)
theorem in_X6_tellSets_X6 : ∀ w ∈ u_ws RX6 TX6 29, w ∈ wsX6_tellSets := fun w h => List.mem_cons_of_mem _ (List.mem_append_right _ h)
theorem in_X6_canBe_X6 : ∀ w ∈ u_ws RX6 TX6 29, w ∈ wsX6_canBe := fun w h => List.mem_cons_of_mem _ (List.mem_append_right _ h)
theorem in_X6_tellWays_X6 : ∀ w ∈ u_ws RX6 TX6 29, w ∈ wsX6_tellWays := fun w h => List.mem_cons_of_mem _ (List.mem_append_right _ h)
theorem in_X6_fewest_X6 : ∀ w ∈ u_ws RX6 TX6 29, w ∈ wsX6_fewest := fun w h => List.mem_cons_of_mem _ (List.mem_append_right _ h)
theorem in_X6_many_X6 : ∀ w ∈ u_ws RX6 TX6 29, w ∈ wsX6_many := fun w h => List.mem_cons_of_mem _ (List.mem_append_right _ h)
theorem in_X6_square_X6 : ∀ w ∈ u_ws RX6 TX6 29, w ∈ wsX6_square := fun w h => List.mem_cons_of_mem _ (List.mem_append_right _ h)
theorem in_X6_tellLeast_X6 : ∀ w ∈ u_ws RX6 TX6 29, w ∈ wsX6_tellLeast := fun w h => List.mem_cons_of_mem _ (List.mem_append_right _ h)
theorem in_X6_best_X6 : ∀ w ∈ u_ws RX6 TX6 29, w ∈ wsX6_best := fun w h => List.mem_cons_of_mem _ (List.mem_append_right _ h)
theorem in_X6_isNext_X6 : ∀ w ∈ u_ws RX6 TX6 29, w ∈ wsX6_isNext := fun w h => List.mem_cons_of_mem _ (List.mem_append_right _ h)
theorem in_X6_evenest_X6 : ∀ w ∈ u_ws RX6 TX6 29, w ∈ wsX6_evenest := fun w h => List.mem_cons_of_mem _ (List.mem_append_right _ h)
theorem in_X6_leastBeat_X6 : ∀ w ∈ u_ws RX6 TX6 29, w ∈ wsX6_leastBeat := fun w h => List.mem_cons_of_mem _ (List.mem_append_right _ h)
theorem in_X6_byRoom_X6 : ∀ w ∈ u_ws RX6 TX6 29, w ∈ wsX6_byRoom := fun w h => List.mem_cons_of_mem _ (List.mem_append_right _ h)
theorem in_X6_bound_X6 : ∀ w ∈ u_ws RX6 TX6 29, w ∈ wsX6_bound := fun w h => List.mem_cons_of_mem _ (List.mem_append_right _ h)
theorem in_X6_early_X6 : ∀ w ∈ u_ws RX6 TX6 29, w ∈ wsX6_early := fun w h => List.mem_cons_of_mem _ (List.mem_append_right _ h)
theorem in_X6_late_X6 : ∀ w ∈ u_ws RX6 TX6 29, w ∈ wsX6_late := fun w h => List.mem_cons_of_mem _ (List.mem_append_right _ h)
theorem in_X6_worth_X6 : ∀ w ∈ u_ws RX6 TX6 29, w ∈ wsX6_worth := fun w h => List.mem_cons_of_mem _ (List.mem_append_right _ h)
theorem in_X6_nextBy_X6 : ∀ w ∈ u_ws RX6 TX6 29, w ∈ wsX6_nextBy := fun w h => List.mem_cons_of_mem _ (List.mem_append_right _ h)
theorem in_X6_rule_X6 : ∀ w ∈ u_ws RX6 TX6 29, w ∈ wsX6_rule := fun w h => List.mem_cons_of_mem _ (List.mem_append_right _ h)
theorem in_X6_betters_X6 : ∀ w ∈ u_ws RX6 TX6 29, w ∈ wsX6_betters := fun w h => List.mem_cons_of_mem _ (List.mem_append_right _ h)
theorem in_X6_better_X6 : ∀ w ∈ u_ws RX6 TX6 29, w ∈ wsX6_better := fun w h => List.mem_cons_of_mem _ (List.mem_append_right _ h)
theorem in_X6_sheet_X6 : ∀ w ∈ u_ws RX6 TX6 29, w ∈ wsX6_sheet := fun w h => List.mem_cons_of_mem _ (List.mem_append_right _ h)
theorem in_X6_write_X6 : ∀ w ∈ u_ws RX6 TX6 29, w ∈ wsX6_write := fun w h => List.mem_cons_of_mem _ (List.mem_append_right _ h)
theorem in_X6_take_X6 : ∀ w ∈ u_ws RX6 TX6 29, w ∈ wsX6_take := fun w h => List.mem_cons_of_mem _ (List.mem_append_right _ h)
theorem in_X6_lose_X6 : ∀ w ∈ u_ws RX6 TX6 29, w ∈ wsX6_lose := fun w h => List.mem_cons_of_mem _ (List.mem_append_right _ h)
theorem in_X6_tell_X6 : ∀ w ∈ u_ws RX6 TX6 29, w ∈ wsX6_tell := fun w h => List.mem_cons_of_mem _ (List.mem_append_right _ h)
theorem in_X6_check_X6 : ∀ w ∈ u_ws RX6 TX6 29, w ∈ wsX6_check := fun w h => List.mem_cons_of_mem _ (List.mem_append_right _ h)
theorem in_X6_carry_X6 : ∀ w ∈ u_ws RX6 TX6 29, w ∈ wsX6_carry := fun w h => List.mem_cons_of_mem _ (List.mem_append_right _ h)
theorem in_X6_carryAll_X6 : ∀ w ∈ u_ws RX6 TX6 29, w ∈ wsX6_carryAll := fun w h => List.mem_cons_of_mem _ (List.mem_append_right _ h)
theorem in_X6_keep_X6 : ∀ w ∈ u_ws RX6 TX6 29, w ∈ wsX6_keep := fun w h => List.mem_cons_of_mem _ (List.mem_append_right _ h)
theorem in_X6_back_X6 : ∀ w ∈ u_ws RX6 TX6 29, w ∈ wsX6_back := fun w h => List.mem_cons_of_mem _ (List.mem_append_right _ h)
theorem in_X6_count_X6 : ∀ w ∈ u_ws RX6 TX6 29, w ∈ wsX6_count := fun w h => List.mem_cons_of_mem _ (List.mem_append_right _ h)
