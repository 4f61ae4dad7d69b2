set_option maxHeartbeats 4000000 in
set_option maxRecDepth 100000 in
theorem g_X0_become_15 (l : Launch) (D : va_G) (cy : Nat → ClassId) (q : Nat → Nat) (hq : bJ 66 q) (z0 : zS) (hI : IvC z0)  : bCv l yX0_become wsX0_become ({ frames := 1, cells := 0, slots := 0, locals := 40 }) D cy 66 (enC cy) q z0 [.ref (q 15), .ref (q 1)] (fun z => jJ IvC 56 133955584 0 z0 z ∧ ((z.1 3 = z0.1 0 ∧ z.1 4 = z0.1 1 ∧ z.1 5 = z0.1 2)) ∧ ((∀ i : Nat, i < 10 → z.2.1 21 i = z0.2.1 7 i) ∧ (∀ i : Nat, i < 10 → z.2.1 22 i = z0.2.1 8 i) ∧ (∀ i : Nat, i < 10 → z.2.1 23 i = z0.2.1 9 i) ∧ (∀ i : Nat, i < 10 → z.2.1 24 i = z0.2.1 10 i) ∧ (∀ i : Nat, i < 10 → z.2.1 25 i = z0.2.1 11 i) ∧ (∀ i : Nat, i < 10 → z.2.1 26 i = z0.2.1 12 i)) ∧ (SameT (fun a b => z0.2.1 (4 + a) b) (fun a b => z.2.1 (18 + a) b))) := by
  refine hM_v cX0_become (by decide) rfl (own := RX0) rfl hq (Nat.le_of_ble_eq_true rfl) ?_
  intro p e s m args below meth c Q ls H locs hx hb hml hown hts hK hZ hH hl hret
  have hl : lv_has ls 3 [(0, .ref (q 15)), (1, .ref (q 1))] := hl
  have hJ : jJ IvC 56 133955584 0 z0 z0 := jJ_rf _ _ _ hI
  have HL26 : ∀ (n : Nat) (x2_26 : Int32) (z_26 : zS) (H : Heap) (locs : List Loc) (ls : Array Slot), iv 0 3 x2_26 → ((z_26.1 3 = z0.1 0 ∧ z_26.1 4 = z0.1 1 ∧ z_26.1 5 = z0.1 2) ∧ BcT 18 4 z0 z_26 (x2_26 : Int32).toNatClampNeg) → jJ IvC 56 133955584 0 z0 z_26 → bH D 66 (enC cy) q z_26 s.heap H locs → lv_has ls 3 [(0, .ref (q 15)), (1, .ref (q 1)), (2, .int x2_26)] → (3 - x2_26.toInt).toNat = n → W p l e ({ frames := 1, cells := 0, slots := 0, locals := 40 }) s m args below meth c H locs 0 0 Q (F0 m 26 ls []) := by
    intro n26
    induction n26 using Nat.strongRecOn with
    | ind n26 ih26 =>
      intro x2_26 z_26 H locs ls h2_26 ex_26 hJ hH hl hn26
      refine lv_iload_n hx hb dX0_become_26 rfl (lv_at hl 2 rfl) ?_
      refine lv_iconst (v := 3) hx hb dX0_become_27 (by decide) ?_
      refine lv_icmp_ge (tgt := 56) hx hb dX0_become_28 (by decide) (fun c35 => ?_) (fun c35 => ?_)
      · skip
        have k36b : iv 3 3 x2_26 := iv_ler (iv_Le c35) (iv_lit (n := 3) 3 (by decide)) h2_26
        refine lv_aload_n hx hb dX0_become_56 rfl (lv_at hl 1 rfl) ?_
        refine b_get (ci := 0) (C := RX0) (T := TX0) (Nf := 11) (v := .ref (q 7)) hx hb hts in_X0_become_X0 hown hK hH 1 (by decide) rfl rfl 5 (by decide) (hts (.fieldLink RX0 30 "StationLine$Bench" "before" "[I") (List.mem_of_getElem? (i := 9) rfl)) rfl dX0_become_57 ?_
        refine lv_iconst (v := 0) hx hb dX0_become_60 (by decide) ?_
        refine lv_aload_n hx hb dX0_become_61 rfl (lv_at hl 0 rfl) ?_
        refine b_get (ci := 0) (C := RX0) (T := TX0) (Nf := 11) (v := .ref (q 21)) hx hb hts in_X0_become_X0 hown hK hH 15 (by decide) rfl rfl 5 (by decide) (hts (.fieldLink RX0 30 "StationLine$Bench" "before" "[I") (List.mem_of_getElem? (i := 9) rfl)) rfl dX0_become_62 ?_
        refine lv_iconst (v := 0) hx hb dX0_become_65 (by decide) ?_
        refine lv_bipush (v := 10) hx hb dX0_become_66 (by decide) ?_
        refine b_copyi hx hb (by rw [hml]; exact hl.1.symm) hown (hts (.methodLink RX0 51 arraycopyName) (List.mem_of_getElem? (i := 5) rfl)) (hts (.native arraycopyName) (List.mem_of_getElem? (i := 6) rfl)) (hts (.static arraycopyName) (List.mem_of_getElem? (i := 7) rfl)) (hts (.initialized "java/lang/System") (List.mem_of_getElem? (i := 8) rfl)) hK hH 7 21 (by decide) (by decide) rfl rfl (by decide) (by decide) (by decide) (by decide) (by decide) (Nat.le_of_ble_eq_true rfl) (Nat.le_of_ble_eq_true rfl) (upA z_26 21 (va_cpy (z_26.2.1 7) (z_26.2.1 21) (0 : Int32).toNatClampNeg (0 : Int32).toNatClampNeg (10 : Int32).toNatClampNeg)) rfl (enC_A _ _ _ _ _) dX0_become_68 (fun H locs hH => ?_)
        obtain ⟨z37, hz37⟩ : ∃ w : zS, w = upA z_26 21 (va_cpy (z_26.2.1 7) (z_26.2.1 21) (0 : Int32).toNatClampNeg (0 : Int32).toNatClampNeg (10 : Int32).toNatClampNeg) := ⟨_, rfl⟩
        rw [← hz37] at hH
        have hJ : jJ IvC 56 133955584 0 z0 z37 := by rw [hz37]; exact jJ_A hJ (by decide) (IvC_A hJ.1 (by decide))
        refine lv_aload_n hx hb dX0_become_71 rfl (lv_at hl 1 rfl) ?_
        refine b_get (ci := 0) (C := RX0) (T := TX0) (Nf := 11) (v := .ref (q 8)) hx hb hts in_X0_become_X0 hown hK hH 1 (by decide) rfl rfl 6 (by decide) (hts (.fieldLink RX0 33 "StationLine$Bench" "leading" "[I") (List.mem_of_getElem? (i := 10) rfl)) rfl dX0_become_72 ?_
        refine lv_iconst (v := 0) hx hb dX0_become_75 (by decide) ?_
        refine lv_aload_n hx hb dX0_become_76 rfl (lv_at hl 0 rfl) ?_
        refine b_get (ci := 0) (C := RX0) (T := TX0) (Nf := 11) (v := .ref (q 22)) hx hb hts in_X0_become_X0 hown hK hH 15 (by decide) rfl rfl 6 (by decide) (hts (.fieldLink RX0 33 "StationLine$Bench" "leading" "[I") (List.mem_of_getElem? (i := 10) rfl)) rfl dX0_become_77 ?_
        refine lv_iconst (v := 0) hx hb dX0_become_80 (by decide) ?_
        refine lv_bipush (v := 10) hx hb dX0_become_81 (by decide) ?_
        refine b_copyi hx hb (by rw [hml]; exact hl.1.symm) hown (hts (.methodLink RX0 51 arraycopyName) (List.mem_of_getElem? (i := 5) rfl)) (hts (.native arraycopyName) (List.mem_of_getElem? (i := 6) rfl)) (hts (.static arraycopyName) (List.mem_of_getElem? (i := 7) rfl)) (hts (.initialized "java/lang/System") (List.mem_of_getElem? (i := 8) rfl)) hK hH 8 22 (by decide) (by decide) rfl rfl (by decide) (by decide) (by decide) (by decide) (by decide) (Nat.le_of_ble_eq_true rfl) (Nat.le_of_ble_eq_true rfl) (upA z37 22 (va_cpy (z37.2.1 8) (z37.2.1 22) (0 : Int32).toNatClampNeg (0 : Int32).toNatClampNeg (10 : Int32).toNatClampNeg)) rfl (enC_A _ _ _ _ _) dX0_become_83 (fun H locs hH => ?_)
        obtain ⟨z38, hz38⟩ : ∃ w : zS, w = upA z37 22 (va_cpy (z37.2.1 8) (z37.2.1 22) (0 : Int32).toNatClampNeg (0 : Int32).toNatClampNeg (10 : Int32).toNatClampNeg) := ⟨_, rfl⟩
        rw [← hz38] at hH
        have hJ : jJ IvC 56 133955584 0 z0 z38 := by rw [hz38]; exact jJ_A hJ (by decide) (IvC_A hJ.1 (by decide))
        refine lv_aload_n hx hb dX0_become_86 rfl (lv_at hl 1 rfl) ?_
        refine b_get (ci := 0) (C := RX0) (T := TX0) (Nf := 11) (v := .ref (q 9)) hx hb hts in_X0_become_X0 hown hK hH 1 (by decide) rfl rfl 7 (by decide) (hts (.fieldLink RX0 36 "StationLine$Bench" "following" "[I") (List.mem_of_getElem? (i := 11) rfl)) rfl dX0_become_87 ?_
        refine lv_iconst (v := 0) hx hb dX0_become_90 (by decide) ?_
        refine lv_aload_n hx hb dX0_become_91 rfl (lv_at hl 0 rfl) ?_
        refine b_get (ci := 0) (C := RX0) (T := TX0) (Nf := 11) (v := .ref (q 23)) hx hb hts in_X0_become_X0 hown hK hH 15 (by decide) rfl rfl 7 (by decide) (hts (.fieldLink RX0 36 "StationLine$Bench" "following" "[I") (List.mem_of_getElem? (i := 11) rfl)) rfl dX0_become_92 ?_
        refine lv_iconst (v := 0) hx hb dX0_become_95 (by decide) ?_
        refine lv_bipush (v := 10) hx hb dX0_become_96 (by decide) ?_
        refine b_copyi hx hb (by rw [hml]; exact hl.1.symm) hown (hts (.methodLink RX0 51 arraycopyName) (List.mem_of_getElem? (i := 5) rfl)) (hts (.native arraycopyName) (List.mem_of_getElem? (i := 6) rfl)) (hts (.static arraycopyName) (List.mem_of_getElem? (i := 7) rfl)) (hts (.initialized "java/lang/System") (List.mem_of_getElem? (i := 8) rfl)) hK hH 9 23 (by decide) (by decide) rfl rfl (by decide) (by decide) (by decide) (by decide) (by decide) (Nat.le_of_ble_eq_true rfl) (Nat.le_of_ble_eq_true rfl) (upA z38 23 (va_cpy (z38.2.1 9) (z38.2.1 23) (0 : Int32).toNatClampNeg (0 : Int32).toNatClampNeg (10 : Int32).toNatClampNeg)) rfl (enC_A _ _ _ _ _) dX0_become_98 (fun H locs hH => ?_)
        obtain ⟨z39, hz39⟩ : ∃ w : zS, w = upA z38 23 (va_cpy (z38.2.1 9) (z38.2.1 23) (0 : Int32).toNatClampNeg (0 : Int32).toNatClampNeg (10 : Int32).toNatClampNeg) := ⟨_, rfl⟩
        rw [← hz39] at hH
        have hJ : jJ IvC 56 133955584 0 z0 z39 := by rw [hz39]; exact jJ_A hJ (by decide) (IvC_A hJ.1 (by decide))
        refine lv_aload_n hx hb dX0_become_101 rfl (lv_at hl 1 rfl) ?_
        refine b_get (ci := 0) (C := RX0) (T := TX0) (Nf := 11) (v := .ref (q 10)) hx hb hts in_X0_become_X0 hown hK hH 1 (by decide) rfl rfl 8 (by decide) (hts (.fieldLink RX0 39 "StationLine$Bench" "together" "[I") (List.mem_of_getElem? (i := 12) rfl)) rfl dX0_become_102 ?_
        refine lv_iconst (v := 0) hx hb dX0_become_105 (by decide) ?_
        refine lv_aload_n hx hb dX0_become_106 rfl (lv_at hl 0 rfl) ?_
        refine b_get (ci := 0) (C := RX0) (T := TX0) (Nf := 11) (v := .ref (q 24)) hx hb hts in_X0_become_X0 hown hK hH 15 (by decide) rfl rfl 8 (by decide) (hts (.fieldLink RX0 39 "StationLine$Bench" "together" "[I") (List.mem_of_getElem? (i := 12) rfl)) rfl dX0_become_107 ?_
        refine lv_iconst (v := 0) hx hb dX0_become_110 (by decide) ?_
        refine lv_bipush (v := 10) hx hb dX0_become_111 (by decide) ?_
        refine b_copyi hx hb (by rw [hml]; exact hl.1.symm) hown (hts (.methodLink RX0 51 arraycopyName) (List.mem_of_getElem? (i := 5) rfl)) (hts (.native arraycopyName) (List.mem_of_getElem? (i := 6) rfl)) (hts (.static arraycopyName) (List.mem_of_getElem? (i := 7) rfl)) (hts (.initialized "java/lang/System") (List.mem_of_getElem? (i := 8) rfl)) hK hH 10 24 (by decide) (by decide) rfl rfl (by decide) (by decide) (by decide) (by decide) (by decide) (Nat.le_of_ble_eq_true rfl) (Nat.le_of_ble_eq_true rfl) (upA z39 24 (va_cpy (z39.2.1 10) (z39.2.1 24) (0 : Int32).toNatClampNeg (0 : Int32).toNatClampNeg (10 : Int32).toNatClampNeg)) rfl (enC_A _ _ _ _ _) dX0_become_113 (fun H locs hH => ?_)
        obtain ⟨z40, hz40⟩ : ∃ w : zS, w = upA z39 24 (va_cpy (z39.2.1 10) (z39.2.1 24) (0 : Int32).toNatClampNeg (0 : Int32).toNatClampNeg (10 : Int32).toNatClampNeg) := ⟨_, rfl⟩
        rw [← hz40] at hH
        have hJ : jJ IvC 56 133955584 0 z0 z40 := by rw [hz40]; exact jJ_A hJ (by decide) (IvC_A hJ.1 (by decide))
        refine lv_aload_n hx hb dX0_become_116 rfl (lv_at hl 1 rfl) ?_
        refine b_get (ci := 0) (C := RX0) (T := TX0) (Nf := 11) (v := .ref (q 11)) hx hb hts in_X0_become_X0 hown hK hH 1 (by decide) rfl rfl 9 (by decide) (hts (.fieldLink RX0 42 "StationLine$Bench" "apart" "[I") (List.mem_of_getElem? (i := 13) rfl)) rfl dX0_become_117 ?_
        refine lv_iconst (v := 0) hx hb dX0_become_120 (by decide) ?_
        refine lv_aload_n hx hb dX0_become_121 rfl (lv_at hl 0 rfl) ?_
        refine b_get (ci := 0) (C := RX0) (T := TX0) (Nf := 11) (v := .ref (q 25)) hx hb hts in_X0_become_X0 hown hK hH 15 (by decide) rfl rfl 9 (by decide) (hts (.fieldLink RX0 42 "StationLine$Bench" "apart" "[I") (List.mem_of_getElem? (i := 13) rfl)) rfl dX0_become_122 ?_
        refine lv_iconst (v := 0) hx hb dX0_become_125 (by decide) ?_
        refine lv_bipush (v := 10) hx hb dX0_become_126 (by decide) ?_
        refine b_copyi hx hb (by rw [hml]; exact hl.1.symm) hown (hts (.methodLink RX0 51 arraycopyName) (List.mem_of_getElem? (i := 5) rfl)) (hts (.native arraycopyName) (List.mem_of_getElem? (i := 6) rfl)) (hts (.static arraycopyName) (List.mem_of_getElem? (i := 7) rfl)) (hts (.initialized "java/lang/System") (List.mem_of_getElem? (i := 8) rfl)) hK hH 11 25 (by decide) (by decide) rfl rfl (by decide) (by decide) (by decide) (by decide) (by decide) (Nat.le_of_ble_eq_true rfl) (Nat.le_of_ble_eq_true rfl) (upA z40 25 (va_cpy (z40.2.1 11) (z40.2.1 25) (0 : Int32).toNatClampNeg (0 : Int32).toNatClampNeg (10 : Int32).toNatClampNeg)) rfl (enC_A _ _ _ _ _) dX0_become_128 (fun H locs hH => ?_)
        obtain ⟨z41, hz41⟩ : ∃ w : zS, w = upA z40 25 (va_cpy (z40.2.1 11) (z40.2.1 25) (0 : Int32).toNatClampNeg (0 : Int32).toNatClampNeg (10 : Int32).toNatClampNeg) := ⟨_, rfl⟩
        rw [← hz41] at hH
        have hJ : jJ IvC 56 133955584 0 z0 z41 := by rw [hz41]; exact jJ_A hJ (by decide) (IvC_A hJ.1 (by decide))
        refine lv_aload_n hx hb dX0_become_131 rfl (lv_at hl 1 rfl) ?_
        refine b_get (ci := 0) (C := RX0) (T := TX0) (Nf := 11) (v := .ref (q 12)) hx hb hts in_X0_become_X0 hown hK hH 1 (by decide) rfl rfl 10 (by decide) (hts (.fieldLink RX0 45 "StationLine$Bench" "held" "[I") (List.mem_of_getElem? (i := 14) rfl)) rfl dX0_become_132 ?_
        refine lv_iconst (v := 0) hx hb dX0_become_135 (by decide) ?_
        refine lv_aload_n hx hb dX0_become_136 rfl (lv_at hl 0 rfl) ?_
        refine b_get (ci := 0) (C := RX0) (T := TX0) (Nf := 11) (v := .ref (q 26)) hx hb hts in_X0_become_X0 hown hK hH 15 (by decide) rfl rfl 10 (by decide) (hts (.fieldLink RX0 45 "StationLine$Bench" "held" "[I") (List.mem_of_getElem? (i := 14) rfl)) rfl dX0_become_137 ?_
        refine lv_iconst (v := 0) hx hb dX0_become_140 (by decide) ?_
        refine lv_bipush (v := 10) hx hb dX0_become_141 (by decide) ?_
        refine b_copyi hx hb (by rw [hml]; exact hl.1.symm) hown (hts (.methodLink RX0 51 arraycopyName) (List.mem_of_getElem? (i := 5) rfl)) (hts (.native arraycopyName) (List.mem_of_getElem? (i := 6) rfl)) (hts (.static arraycopyName) (List.mem_of_getElem? (i := 7) rfl)) (hts (.initialized "java/lang/System") (List.mem_of_getElem? (i := 8) rfl)) hK hH 12 26 (by decide) (by decide) rfl rfl (by decide) (by decide) (by decide) (by decide) (by decide) (Nat.le_of_ble_eq_true rfl) (Nat.le_of_ble_eq_true rfl) (upA z41 26 (va_cpy (z41.2.1 12) (z41.2.1 26) (0 : Int32).toNatClampNeg (0 : Int32).toNatClampNeg (10 : Int32).toNatClampNeg)) rfl (enC_A _ _ _ _ _) dX0_become_143 (fun H locs hH => ?_)
        obtain ⟨z42, hz42⟩ : ∃ w : zS, w = upA z41 26 (va_cpy (z41.2.1 12) (z41.2.1 26) (0 : Int32).toNatClampNeg (0 : Int32).toNatClampNeg (10 : Int32).toNatClampNeg) := ⟨_, rfl⟩
        rw [← hz42] at hH
        have hJ : jJ IvC 56 133955584 0 z0 z42 := by rw [hz42]; exact jJ_A hJ (by decide) (IvC_A hJ.1 (by decide))
        exact hret z42 H locs _ _ ⟨hJ, (by rw [(((show z42.1 3 = z41.1 3 by rw [hz42]; first | rfl | exact upA_n (by omega))).trans (((show z41.1 3 = z40.1 3 by rw [hz41]; first | rfl | exact upA_n (by omega))).trans (((show z40.1 3 = z39.1 3 by rw [hz40]; first | rfl | exact upA_n (by omega))).trans (((show z39.1 3 = z38.1 3 by rw [hz39]; first | rfl | exact upA_n (by omega))).trans (((show z38.1 3 = z37.1 3 by rw [hz38]; first | rfl | exact upA_n (by omega))).trans ((show z37.1 3 = z_26.1 3 by rw [hz37]; first | rfl | exact upA_n (by omega)))))))), (((show z42.1 4 = z41.1 4 by rw [hz42]; first | rfl | exact upA_n (by omega))).trans (((show z41.1 4 = z40.1 4 by rw [hz41]; first | rfl | exact upA_n (by omega))).trans (((show z40.1 4 = z39.1 4 by rw [hz40]; first | rfl | exact upA_n (by omega))).trans (((show z39.1 4 = z38.1 4 by rw [hz39]; first | rfl | exact upA_n (by omega))).trans (((show z38.1 4 = z37.1 4 by rw [hz38]; first | rfl | exact upA_n (by omega))).trans ((show z37.1 4 = z_26.1 4 by rw [hz37]; first | rfl | exact upA_n (by omega)))))))), (((show z42.1 5 = z41.1 5 by rw [hz42]; first | rfl | exact upA_n (by omega))).trans (((show z41.1 5 = z40.1 5 by rw [hz41]; first | rfl | exact upA_n (by omega))).trans (((show z40.1 5 = z39.1 5 by rw [hz40]; first | rfl | exact upA_n (by omega))).trans (((show z39.1 5 = z38.1 5 by rw [hz39]; first | rfl | exact upA_n (by omega))).trans (((show z38.1 5 = z37.1 5 by rw [hz38]; first | rfl | exact upA_n (by omega))).trans ((show z37.1 5 = z_26.1 5 by rw [hz37]; first | rfl | exact upA_n (by omega))))))))]; exact ex_26.1), ⟨fun i hi => (congrFun ((((show z42.2.1 21 = z41.2.1 21 by rw [hz42]; first | rfl | exact upA_n (by omega))).trans (((show z41.2.1 21 = z40.2.1 21 by rw [hz41]; first | rfl | exact upA_n (by omega))).trans (((show z40.2.1 21 = z39.2.1 21 by rw [hz40]; first | rfl | exact upA_n (by omega))).trans (((show z39.2.1 21 = z38.2.1 21 by rw [hz39]; first | rfl | exact upA_n (by omega))).trans ((show z38.2.1 21 = z37.2.1 21 by rw [hz38]; first | rfl | exact upA_n (by omega)))))))) i).trans ((show z37.2.1 21 i = z_26.2.1 7 i by rw [hz37, upA_e]; exact cpy10 hi).trans (congrFun (((((show z42.2.1 7 = z41.2.1 7 by rw [hz42]; first | rfl | exact upA_n (by omega))).trans (((show z41.2.1 7 = z40.2.1 7 by rw [hz41]; first | rfl | exact upA_n (by omega))).trans (((show z40.2.1 7 = z39.2.1 7 by rw [hz40]; first | rfl | exact upA_n (by omega))).trans (((show z39.2.1 7 = z38.2.1 7 by rw [hz39]; first | rfl | exact upA_n (by omega))).trans (((show z38.2.1 7 = z37.2.1 7 by rw [hz38]; first | rfl | exact upA_n (by omega))).trans ((show z37.2.1 7 = z_26.2.1 7 by rw [hz37]; first | rfl | exact upA_n (by omega))))))))).symm.trans (hJ.2.2.1 7 (by decide))) i)), fun i hi => (congrFun ((((show z42.2.1 22 = z41.2.1 22 by rw [hz42]; first | rfl | exact upA_n (by omega))).trans (((show z41.2.1 22 = z40.2.1 22 by rw [hz41]; first | rfl | exact upA_n (by omega))).trans (((show z40.2.1 22 = z39.2.1 22 by rw [hz40]; first | rfl | exact upA_n (by omega))).trans ((show z39.2.1 22 = z38.2.1 22 by rw [hz39]; first | rfl | exact upA_n (by omega))))))) i).trans ((show z38.2.1 22 i = z37.2.1 8 i by rw [hz38, upA_e]; exact cpy10 hi).trans (congrFun (((((show z42.2.1 8 = z41.2.1 8 by rw [hz42]; first | rfl | exact upA_n (by omega))).trans (((show z41.2.1 8 = z40.2.1 8 by rw [hz41]; first | rfl | exact upA_n (by omega))).trans (((show z40.2.1 8 = z39.2.1 8 by rw [hz40]; first | rfl | exact upA_n (by omega))).trans (((show z39.2.1 8 = z38.2.1 8 by rw [hz39]; first | rfl | exact upA_n (by omega))).trans ((show z38.2.1 8 = z37.2.1 8 by rw [hz38]; first | rfl | exact upA_n (by omega)))))))).symm.trans (hJ.2.2.1 8 (by decide))) i)), fun i hi => (congrFun ((((show z42.2.1 23 = z41.2.1 23 by rw [hz42]; first | rfl | exact upA_n (by omega))).trans (((show z41.2.1 23 = z40.2.1 23 by rw [hz41]; first | rfl | exact upA_n (by omega))).trans ((show z40.2.1 23 = z39.2.1 23 by rw [hz40]; first | rfl | exact upA_n (by omega)))))) i).trans ((show z39.2.1 23 i = z38.2.1 9 i by rw [hz39, upA_e]; exact cpy10 hi).trans (congrFun (((((show z42.2.1 9 = z41.2.1 9 by rw [hz42]; first | rfl | exact upA_n (by omega))).trans (((show z41.2.1 9 = z40.2.1 9 by rw [hz41]; first | rfl | exact upA_n (by omega))).trans (((show z40.2.1 9 = z39.2.1 9 by rw [hz40]; first | rfl | exact upA_n (by omega))).trans ((show z39.2.1 9 = z38.2.1 9 by rw [hz39]; first | rfl | exact upA_n (by omega))))))).symm.trans (hJ.2.2.1 9 (by decide))) i)), fun i hi => (congrFun ((((show z42.2.1 24 = z41.2.1 24 by rw [hz42]; first | rfl | exact upA_n (by omega))).trans ((show z41.2.1 24 = z40.2.1 24 by rw [hz41]; first | rfl | exact upA_n (by omega))))) i).trans ((show z40.2.1 24 i = z39.2.1 10 i by rw [hz40, upA_e]; exact cpy10 hi).trans (congrFun (((((show z42.2.1 10 = z41.2.1 10 by rw [hz42]; first | rfl | exact upA_n (by omega))).trans (((show z41.2.1 10 = z40.2.1 10 by rw [hz41]; first | rfl | exact upA_n (by omega))).trans ((show z40.2.1 10 = z39.2.1 10 by rw [hz40]; first | rfl | exact upA_n (by omega)))))).symm.trans (hJ.2.2.1 10 (by decide))) i)), fun i hi => (congrFun (((show z42.2.1 25 = z41.2.1 25 by rw [hz42]; first | rfl | exact upA_n (by omega)))) i).trans ((show z41.2.1 25 i = z40.2.1 11 i by rw [hz41, upA_e]; exact cpy10 hi).trans (congrFun (((((show z42.2.1 11 = z41.2.1 11 by rw [hz42]; first | rfl | exact upA_n (by omega))).trans ((show z41.2.1 11 = z40.2.1 11 by rw [hz41]; first | rfl | exact upA_n (by omega))))).symm.trans (hJ.2.2.1 11 (by decide))) i)), fun i hi => (congrFun (rfl) i).trans ((show z42.2.1 26 i = z41.2.1 12 i by rw [hz42, upA_e]; exact cpy10 hi).trans (congrFun ((((show z42.2.1 12 = z41.2.1 12 by rw [hz42]; first | rfl | exact upA_n (by omega)))).symm.trans (hJ.2.2.1 12 (by decide))) i))⟩, (BcT_fin ex_26.2 (by have h9 := k36b; have := h9.1; have := h9.2; have := iv_nat h9 (by decide); omega) (same_tr (same_tr (same_tr (same_tr (same_tr (fun a b ha _ => congrFun (show z37.2.1 (18 + a) = z_26.2.1 (18 + a) by rw [hz37]; first | rfl | exact upA_n (by omega)) b) (fun a b ha _ => congrFun (show z38.2.1 (18 + a) = z37.2.1 (18 + a) by rw [hz38]; first | rfl | exact upA_n (by omega)) b)) (fun a b ha _ => congrFun (show z39.2.1 (18 + a) = z38.2.1 (18 + a) by rw [hz39]; first | rfl | exact upA_n (by omega)) b)) (fun a b ha _ => congrFun (show z40.2.1 (18 + a) = z39.2.1 (18 + a) by rw [hz40]; first | rfl | exact upA_n (by omega)) b)) (fun a b ha _ => congrFun (show z41.2.1 (18 + a) = z40.2.1 (18 + a) by rw [hz41]; first | rfl | exact upA_n (by omega)) b)) (fun a b ha _ => congrFun (show z42.2.1 (18 + a) = z41.2.1 (18 + a) by rw [hz42]; first | rfl | exact upA_n (by omega)) b)))⟩ hH dX0_become_146
      · skip
        have k43a : iv 0 2 x2_26 := iv_ltl (iv_nLe c35) h2_26 (iv_lit (n := 3) 3 (by decide)) (by decide)
        refine lv_aload_n hx hb dX0_become_31 rfl (lv_at hl 1 rfl) ?_
        refine b_get (ci := 0) (C := RX0) (T := TX0) (Nf := 11) (v := .ref (q 3)) hx hb hts in_X0_become_X0 hown hK hH 1 (by decide) rfl rfl 4 (by decide) (hts (.fieldLink RX0 27 "StationLine$Bench" "times" "[[I") (List.mem_of_getElem? (i := 4) rfl)) rfl dX0_become_32 ?_
        refine lv_iload_n hx hb dX0_become_35 rfl (lv_at hl 2 rfl) ?_
        refine h_aaldE (n := 3) hx hb hK hH 3 3 4 (by decide) rfl rfl (iv_in k43a (by decide) (by decide)) dX0_become_36 (fun k44 hk44 ek44 => ?_)
        refine lv_iconst (v := 0) hx hb dX0_become_37 (by decide) ?_
        refine lv_aload_n hx hb dX0_become_38 rfl (lv_at hl 0 rfl) ?_
        refine b_get (ci := 0) (C := RX0) (T := TX0) (Nf := 11) (v := .ref (q 17)) hx hb hts in_X0_become_X0 hown hK hH 15 (by decide) rfl rfl 4 (by decide) (hts (.fieldLink RX0 27 "StationLine$Bench" "times" "[[I") (List.mem_of_getElem? (i := 4) rfl)) rfl dX0_become_39 ?_
        refine lv_iload_n hx hb dX0_become_42 rfl (lv_at hl 2 rfl) ?_
        refine h_aaldE (n := 3) hx hb hK hH 17 3 18 (by decide) rfl rfl (iv_in k43a (by decide) (by decide)) dX0_become_43 (fun k45 hk45 ek45 => ?_)
        refine lv_iconst (v := 0) hx hb dX0_become_44 (by decide) ?_
        refine lv_bipush (v := 10) hx hb dX0_become_45 (by decide) ?_
        refine b_copyi hx hb (by rw [hml]; exact hl.1.symm) hown (hts (.methodLink RX0 51 arraycopyName) (List.mem_of_getElem? (i := 5) rfl)) (hts (.native arraycopyName) (List.mem_of_getElem? (i := 6) rfl)) (hts (.static arraycopyName) (List.mem_of_getElem? (i := 7) rfl)) (hts (.initialized "java/lang/System") (List.mem_of_getElem? (i := 8) rfl)) hK hH k44 k45 (Nat.lt_of_lt_of_le hk44.2 (by decide)) (Nat.lt_of_lt_of_le hk45.2 (by decide)) (enC_g4 cy q _ k44 hk44) (enC_g18 cy q _ k45 hk45) (by decide) (by decide) (by decide) (by decide) (by decide) (Nat.le_of_ble_eq_true rfl) (Nat.le_of_ble_eq_true rfl) (upA z_26 k45 (va_cpy (z_26.2.1 k44) (z_26.2.1 k45) (0 : Int32).toNatClampNeg (0 : Int32).toNatClampNeg (10 : Int32).toNatClampNeg)) (enC_sa18 cy q _ k45 _ hk45) (enC_A _ _ _ _ _) dX0_become_47 (fun H locs hH => ?_)
        obtain ⟨z46, hz46⟩ : ∃ w : zS, w = upA z_26 k45 (va_cpy (z_26.2.1 k44) (z_26.2.1 k45) (0 : Int32).toNatClampNeg (0 : Int32).toNatClampNeg (10 : Int32).toNatClampNeg) := ⟨_, rfl⟩
        rw [← hz46] at hH
        have hJ : jJ IvC 56 133955584 0 z0 z46 := by rw [hz46]; exact jJ_A hJ (tb_grp (g0 := 18) (n := 3) (by decide) hk45) (IvC_A hJ.1 (by omega))
        have j47 : iv 1 3 (x2_26 + 1) := iv_add k43a (iv_lit (n := 1) 1 (by decide)) (by decide) (by decide) (by decide) (by decide)
        have e47 : (x2_26 + 1).toInt = x2_26.toInt + 1 := (iv_addE k43a (iv_lit (n := 1) 1 (by decide)) (by decide) (by decide)).trans rfl
        refine lv_iinc (v := (x2_26 + 1)) (lv' := [(2, .int (x2_26 + 1)), (0, .ref (q 15)), (1, .ref (q 1))]) hx hb dX0_become_50 hl (k := 2) rfl rfl (by decide) rfl (fun ls hl => ?_)
        refine lv_goto (tgt := 26) hx hb dX0_become_53 (by decide) ?_
        exact ih26 _ (ms_up e47 j47.2 hn26) (x2_26 + 1) z46 H locs ls (iv_w j47 (by decide) (by decide)) ⟨(by rw [((show z46.1 3 = z_26.1 3 by rw [hz46]; first | rfl | exact upA_n (by omega))), ((show z46.1 4 = z_26.1 4 by rw [hz46]; first | rfl | exact upA_n (by omega))), ((show z46.1 5 = z_26.1 5 by rw [hz46]; first | rfl | exact upA_n (by omega)))]; exact ex_26.1), BcT_st ex_26.2 (ag_T 4 hJ.2.2.1 (by decide) (by decide) (by decide)) (by decide) ek45 ek44 (by have := k43a.2; have := iv_nat k43a (by decide); omega) hz46 (by have := iv_nat k43a (by decide); have := iv_nat j47 (by decide); omega)⟩ hJ hH (lv_sub hl [1, 2, 0] rfl) rfl
  refine lv_aload_n hx hb dX0_become_0 rfl (lv_at hl 0 rfl) ?_
  refine lv_aload_n hx hb dX0_become_1 rfl (lv_at hl 1 rfl) ?_
  refine b_get (ci := 0) (C := RX0) (T := TX0) (Nf := 11) (v := .int (z0.1 0)) hx hb hts in_X0_become_X0 hown hK hH 1 (by decide) rfl rfl 0 (by decide) (hts (.fieldLink RX0 9 "StationLine$Bench" "size" "I") (List.mem_of_getElem? (i := 1) rfl)) rfl dX0_become_2 ?_
  have i48 := IvC_s0 hJ.1
  refine b_put (ci := 0) (C := RX0) (T := TX0) (Nf := 11) (v := .int (z0.1 0)) (ty := .int) hx hb hts in_X0_become_X0 tyX0 tyX0_ok nmX0 hown hK hH 15 (by decide) rfl rfl 0 (by decide) (hts (.fieldLink RX0 9 "StationLine$Bench" "size" "I") (List.mem_of_getElem? (i := 1) rfl)) rfl (by decide +kernel) rfl rfl (Nat.le_of_ble_eq_true rfl) (upS z0 3 (z0.1 0)) rfl (enC_S3 _ _ _ _) dX0_become_5 (fun H locs hH => ?_)
  obtain ⟨z49, hz49⟩ : ∃ w : zS, w = upS z0 3 (z0.1 0) := ⟨_, rfl⟩
  rw [← hz49] at hH
  have hJ : jJ IvC 56 133955584 0 z0 z49 := by rw [hz49]; exact jJ_S hJ (by decide) (IvC_S3 hJ.1 (iv_w i48 (by decide) (by decide)))
  have g50 : iv 0 10 (z49.1 3) := by rw [hz49]; exact i48
  refine lv_aload_n hx hb dX0_become_8 rfl (lv_at hl 0 rfl) ?_
  refine lv_aload_n hx hb dX0_become_9 rfl (lv_at hl 1 rfl) ?_
  refine b_get (ci := 0) (C := RX0) (T := TX0) (Nf := 11) (v := .int (z49.1 1)) hx hb hts in_X0_become_X0 hown hK hH 1 (by decide) rfl rfl 1 (by decide) (hts (.fieldLink RX0 15 "StationLine$Bench" "kind" "I") (List.mem_of_getElem? (i := 2) rfl)) rfl dX0_become_10 ?_
  refine b_put (ci := 0) (C := RX0) (T := TX0) (Nf := 11) (v := .int (z49.1 1)) (ty := .int) hx hb hts in_X0_become_X0 tyX0 tyX0_ok nmX0 hown hK hH 15 (by decide) rfl rfl 1 (by decide) (hts (.fieldLink RX0 15 "StationLine$Bench" "kind" "I") (List.mem_of_getElem? (i := 2) rfl)) rfl (by decide +kernel) rfl rfl (Nat.le_of_ble_eq_true rfl) (upS z49 4 (z49.1 1)) rfl (enC_S4 _ _ _ _) dX0_become_13 (fun H locs hH => ?_)
  obtain ⟨z51, hz51⟩ : ∃ w : zS, w = upS z49 4 (z49.1 1) := ⟨_, rfl⟩
  rw [← hz51] at hH
  have hJ : jJ IvC 56 133955584 0 z0 z51 := by rw [hz51]; exact jJ_S hJ (by decide) (IvC_S4 hJ.1)
  refine lv_aload_n hx hb dX0_become_16 rfl (lv_at hl 0 rfl) ?_
  refine lv_aload_n hx hb dX0_become_17 rfl (lv_at hl 1 rfl) ?_
  refine b_get (ci := 0) (C := RX0) (T := TX0) (Nf := 11) (v := .int (z51.1 2)) hx hb hts in_X0_become_X0 hown hK hH 1 (by decide) rfl rfl 2 (by decide) (hts (.fieldLink RX0 18 "StationLine$Bench" "beat" "I") (List.mem_of_getElem? (i := 3) rfl)) rfl dX0_become_18 ?_
  refine b_put (ci := 0) (C := RX0) (T := TX0) (Nf := 11) (v := .int (z51.1 2)) (ty := .int) hx hb hts in_X0_become_X0 tyX0 tyX0_ok nmX0 hown hK hH 15 (by decide) rfl rfl 2 (by decide) (hts (.fieldLink RX0 18 "StationLine$Bench" "beat" "I") (List.mem_of_getElem? (i := 3) rfl)) rfl (by decide +kernel) rfl rfl (Nat.le_of_ble_eq_true rfl) (upS z51 5 (z51.1 2)) rfl (enC_S5 _ _ _ _) dX0_become_21 (fun H locs hH => ?_)
  obtain ⟨z52, hz52⟩ : ∃ w : zS, w = upS z51 5 (z51.1 2) := ⟨_, rfl⟩
  rw [← hz52] at hH
  have hJ : jJ IvC 56 133955584 0 z0 z52 := by rw [hz52]; exact jJ_S hJ (by decide) (IvC_S5 hJ.1)
  refine lv_iconst (v := 0) hx hb dX0_become_24 (by decide) ?_
  refine lv_istore_n (lv' := [(2, .int 0), (0, .ref (q 15)), (1, .ref (q 1))]) hx hb dX0_become_25 rfl hl (by decide) rfl (fun ls hl => ?_)
  exact HL26 _ 0 z52 H locs ls (iv_w (iv_lit (n := 0) 0 (by decide)) (by decide) (by decide)) ⟨(by rw [hz52, hz51, hz49]; exact ⟨rfl, rfl, rfl⟩), BcT_0 (same_tr (same_tr (fun a b ha _ => congrFun (show z49.2.1 (18 + a) = z0.2.1 (18 + a) by rw [hz49]; first | rfl | exact upA_n (by omega)) b) (fun a b ha _ => congrFun (show z51.2.1 (18 + a) = z49.2.1 (18 + a) by rw [hz51]; first | rfl | exact upA_n (by omega)) b)) (fun a b ha _ => congrFun (show z52.2.1 (18 + a) = z51.2.1 (18 + a) by rw [hz52]; first | rfl | exact upA_n (by omega)) b))⟩ hJ hH (lv_sub hl [1, 2, 0] rfl) rfl
set_option maxHeartbeats 4000000 in
set_option maxRecDepth 100000 in
theorem g_X0_become_1 (l : Launch) (D : va_G) (cy : Nat → ClassId) (q : Nat → Nat) (hq : bJ 66 q) (z0 : zS) (hI : IvC z0)  : bCv l yX0_become wsX0_become ({ frames := 1, cells := 0, slots := 0, locals := 40 }) D cy 66 (enC cy) q z0 [.ref (q 1), .ref (q 15)] (fun z => jJ IvC 7 8176 0 z0 z ∧ ((z.1 0 = z0.1 3 ∧ z.1 1 = z0.1 4 ∧ z.1 2 = z0.1 5)) ∧ ((∀ i : Nat, i < 10 → z.2.1 7 i = z0.2.1 21 i) ∧ (∀ i : Nat, i < 10 → z.2.1 8 i = z0.2.1 22 i) ∧ (∀ i : Nat, i < 10 → z.2.1 9 i = z0.2.1 23 i) ∧ (∀ i : Nat, i < 10 → z.2.1 10 i = z0.2.1 24 i) ∧ (∀ i : Nat, i < 10 → z.2.1 11 i = z0.2.1 25 i) ∧ (∀ i : Nat, i < 10 → z.2.1 12 i = z0.2.1 26 i)) ∧ (SameT (fun a b => z0.2.1 (18 + a) b) (fun a b => z.2.1 (4 + a) b))) := by
  refine hM_v cX0_become (by decide) rfl (own := RX0) rfl hq (Nat.le_of_ble_eq_true rfl) ?_
  intro p e s m args below meth c Q ls H locs hx hb hml hown hts hK hZ hH hl hret
  have hl : lv_has ls 3 [(0, .ref (q 1)), (1, .ref (q 15))] := hl
  have hJ : jJ IvC 7 8176 0 z0 z0 := jJ_rf _ _ _ hI
  have HL26 : ∀ (n : Nat) (x2_26 : Int32) (z_26 : zS) (H : Heap) (locs : List Loc) (ls : Array Slot), iv 0 3 x2_26 → ((z_26.1 0 = z0.1 3 ∧ z_26.1 1 = z0.1 4 ∧ z_26.1 2 = z0.1 5) ∧ BcT 4 18 z0 z_26 (x2_26 : Int32).toNatClampNeg) → jJ IvC 7 8176 0 z0 z_26 → bH D 66 (enC cy) q z_26 s.heap H locs → lv_has ls 3 [(0, .ref (q 1)), (1, .ref (q 15)), (2, .int x2_26)] → (3 - x2_26.toInt).toNat = n → W p l e ({ frames := 1, cells := 0, slots := 0, locals := 40 }) s m args below meth c H locs 0 0 Q (F0 m 26 ls []) := by
    intro n26
    induction n26 using Nat.strongRecOn with
    | ind n26 ih26 =>
      intro x2_26 z_26 H locs ls h2_26 ex_26 hJ hH hl hn26
      refine lv_iload_n hx hb dX0_become_26 rfl (lv_at hl 2 rfl) ?_
      refine lv_iconst (v := 3) hx hb dX0_become_27 (by decide) ?_
      refine lv_icmp_ge (tgt := 56) hx hb dX0_become_28 (by decide) (fun c35 => ?_) (fun c35 => ?_)
      · skip
        have k36b : iv 3 3 x2_26 := iv_ler (iv_Le c35) (iv_lit (n := 3) 3 (by decide)) h2_26
        refine lv_aload_n hx hb dX0_become_56 rfl (lv_at hl 1 rfl) ?_
        refine b_get (ci := 0) (C := RX0) (T := TX0) (Nf := 11) (v := .ref (q 21)) hx hb hts in_X0_become_X0 hown hK hH 15 (by decide) rfl rfl 5 (by decide) (hts (.fieldLink RX0 30 "StationLine$Bench" "before" "[I") (List.mem_of_getElem? (i := 9) rfl)) rfl dX0_become_57 ?_
        refine lv_iconst (v := 0) hx hb dX0_become_60 (by decide) ?_
        refine lv_aload_n hx hb dX0_become_61 rfl (lv_at hl 0 rfl) ?_
        refine b_get (ci := 0) (C := RX0) (T := TX0) (Nf := 11) (v := .ref (q 7)) hx hb hts in_X0_become_X0 hown hK hH 1 (by decide) rfl rfl 5 (by decide) (hts (.fieldLink RX0 30 "StationLine$Bench" "before" "[I") (List.mem_of_getElem? (i := 9) rfl)) rfl dX0_become_62 ?_
        refine lv_iconst (v := 0) hx hb dX0_become_65 (by decide) ?_
        refine lv_bipush (v := 10) hx hb dX0_become_66 (by decide) ?_
        refine b_copyi hx hb (by rw [hml]; exact hl.1.symm) hown (hts (.methodLink RX0 51 arraycopyName) (List.mem_of_getElem? (i := 5) rfl)) (hts (.native arraycopyName) (List.mem_of_getElem? (i := 6) rfl)) (hts (.static arraycopyName) (List.mem_of_getElem? (i := 7) rfl)) (hts (.initialized "java/lang/System") (List.mem_of_getElem? (i := 8) rfl)) hK hH 21 7 (by decide) (by decide) rfl rfl (by decide) (by decide) (by decide) (by decide) (by decide) (Nat.le_of_ble_eq_true rfl) (Nat.le_of_ble_eq_true rfl) (upA z_26 7 (va_cpy (z_26.2.1 21) (z_26.2.1 7) (0 : Int32).toNatClampNeg (0 : Int32).toNatClampNeg (10 : Int32).toNatClampNeg)) rfl (enC_A _ _ _ _ _) dX0_become_68 (fun H locs hH => ?_)
        obtain ⟨z37, hz37⟩ : ∃ w : zS, w = upA z_26 7 (va_cpy (z_26.2.1 21) (z_26.2.1 7) (0 : Int32).toNatClampNeg (0 : Int32).toNatClampNeg (10 : Int32).toNatClampNeg) := ⟨_, rfl⟩
        rw [← hz37] at hH
        have hJ : jJ IvC 7 8176 0 z0 z37 := by rw [hz37]; exact jJ_A hJ (by decide) (IvC_A hJ.1 (by decide))
        refine lv_aload_n hx hb dX0_become_71 rfl (lv_at hl 1 rfl) ?_
        refine b_get (ci := 0) (C := RX0) (T := TX0) (Nf := 11) (v := .ref (q 22)) hx hb hts in_X0_become_X0 hown hK hH 15 (by decide) rfl rfl 6 (by decide) (hts (.fieldLink RX0 33 "StationLine$Bench" "leading" "[I") (List.mem_of_getElem? (i := 10) rfl)) rfl dX0_become_72 ?_
        refine lv_iconst (v := 0) hx hb dX0_become_75 (by decide) ?_
        refine lv_aload_n hx hb dX0_become_76 rfl (lv_at hl 0 rfl) ?_
        refine b_get (ci := 0) (C := RX0) (T := TX0) (Nf := 11) (v := .ref (q 8)) hx hb hts in_X0_become_X0 hown hK hH 1 (by decide) rfl rfl 6 (by decide) (hts (.fieldLink RX0 33 "StationLine$Bench" "leading" "[I") (List.mem_of_getElem? (i := 10) rfl)) rfl dX0_become_77 ?_
        refine lv_iconst (v := 0) hx hb dX0_become_80 (by decide) ?_
        refine lv_bipush (v := 10) hx hb dX0_become_81 (by decide) ?_
        refine b_copyi hx hb (by rw [hml]; exact hl.1.symm) hown (hts (.methodLink RX0 51 arraycopyName) (List.mem_of_getElem? (i := 5) rfl)) (hts (.native arraycopyName) (List.mem_of_getElem? (i := 6) rfl)) (hts (.static arraycopyName) (List.mem_of_getElem? (i := 7) rfl)) (hts (.initialized "java/lang/System") (List.mem_of_getElem? (i := 8) rfl)) hK hH 22 8 (by decide) (by decide) rfl rfl (by decide) (by decide) (by decide) (by decide) (by decide) (Nat.le_of_ble_eq_true rfl) (Nat.le_of_ble_eq_true rfl) (upA z37 8 (va_cpy (z37.2.1 22) (z37.2.1 8) (0 : Int32).toNatClampNeg (0 : Int32).toNatClampNeg (10 : Int32).toNatClampNeg)) rfl (enC_A _ _ _ _ _) dX0_become_83 (fun H locs hH => ?_)
        obtain ⟨z38, hz38⟩ : ∃ w : zS, w = upA z37 8 (va_cpy (z37.2.1 22) (z37.2.1 8) (0 : Int32).toNatClampNeg (0 : Int32).toNatClampNeg (10 : Int32).toNatClampNeg) := ⟨_, rfl⟩
        rw [← hz38] at hH
        have hJ : jJ IvC 7 8176 0 z0 z38 := by rw [hz38]; exact jJ_A hJ (by decide) (IvC_A hJ.1 (by decide))
        refine lv_aload_n hx hb dX0_become_86 rfl (lv_at hl 1 rfl) ?_
        refine b_get (ci := 0) (C := RX0) (T := TX0) (Nf := 11) (v := .ref (q 23)) hx hb hts in_X0_become_X0 hown hK hH 15 (by decide) rfl rfl 7 (by decide) (hts (.fieldLink RX0 36 "StationLine$Bench" "following" "[I") (List.mem_of_getElem? (i := 11) rfl)) rfl dX0_become_87 ?_
        refine lv_iconst (v := 0) hx hb dX0_become_90 (by decide) ?_
        refine lv_aload_n hx hb dX0_become_91 rfl (lv_at hl 0 rfl) ?_
        refine b_get (ci := 0) (C := RX0) (T := TX0) (Nf := 11) (v := .ref (q 9)) hx hb hts in_X0_become_X0 hown hK hH 1 (by decide) rfl rfl 7 (by decide) (hts (.fieldLink RX0 36 "StationLine$Bench" "following" "[I") (List.mem_of_getElem? (i := 11) rfl)) rfl dX0_become_92 ?_
        refine lv_iconst (v := 0) hx hb dX0_become_95 (by decide) ?_
        refine lv_bipush (v := 10) hx hb dX0_become_96 (by decide) ?_
        refine b_copyi hx hb (by rw [hml]; exact hl.1.symm) hown (hts (.methodLink RX0 51 arraycopyName) (List.mem_of_getElem? (i := 5) rfl)) (hts (.native arraycopyName) (List.mem_of_getElem? (i := 6) rfl)) (hts (.static arraycopyName) (List.mem_of_getElem? (i := 7) rfl)) (hts (.initialized "java/lang/System") (List.mem_of_getElem? (i := 8) rfl)) hK hH 23 9 (by decide) (by decide) rfl rfl (by decide) (by decide) (by decide) (by decide) (by decide) (Nat.le_of_ble_eq_true rfl) (Nat.le_of_ble_eq_true rfl) (upA z38 9 (va_cpy (z38.2.1 23) (z38.2.1 9) (0 : Int32).toNatClampNeg (0 : Int32).toNatClampNeg (10 : Int32).toNatClampNeg)) rfl (enC_A _ _ _ _ _) dX0_become_98 (fun H locs hH => ?_)
        obtain ⟨z39, hz39⟩ : ∃ w : zS, w = upA z38 9 (va_cpy (z38.2.1 23) (z38.2.1 9) (0 : Int32).toNatClampNeg (0 : Int32).toNatClampNeg (10 : Int32).toNatClampNeg) := ⟨_, rfl⟩
        rw [← hz39] at hH
        have hJ : jJ IvC 7 8176 0 z0 z39 := by rw [hz39]; exact jJ_A hJ (by decide) (IvC_A hJ.1 (by decide))
        refine lv_aload_n hx hb dX0_become_101 rfl (lv_at hl 1 rfl) ?_
        refine b_get (ci := 0) (C := RX0) (T := TX0) (Nf := 11) (v := .ref (q 24)) hx hb hts in_X0_become_X0 hown hK hH 15 (by decide) rfl rfl 8 (by decide) (hts (.fieldLink RX0 39 "StationLine$Bench" "together" "[I") (List.mem_of_getElem? (i := 12) rfl)) rfl dX0_become_102 ?_
        refine lv_iconst (v := 0) hx hb dX0_become_105 (by decide) ?_
        refine lv_aload_n hx hb dX0_become_106 rfl (lv_at hl 0 rfl) ?_
        refine b_get (ci := 0) (C := RX0) (T := TX0) (Nf := 11) (v := .ref (q 10)) hx hb hts in_X0_become_X0 hown hK hH 1 (by decide) rfl rfl 8 (by decide) (hts (.fieldLink RX0 39 "StationLine$Bench" "together" "[I") (List.mem_of_getElem? (i := 12) rfl)) rfl dX0_become_107 ?_
        refine lv_iconst (v := 0) hx hb dX0_become_110 (by decide) ?_
        refine lv_bipush (v := 10) hx hb dX0_become_111 (by decide) ?_
        refine b_copyi hx hb (by rw [hml]; exact hl.1.symm) hown (hts (.methodLink RX0 51 arraycopyName) (List.mem_of_getElem? (i := 5) rfl)) (hts (.native arraycopyName) (List.mem_of_getElem? (i := 6) rfl)) (hts (.static arraycopyName) (List.mem_of_getElem? (i := 7) rfl)) (hts (.initialized "java/lang/System") (List.mem_of_getElem? (i := 8) rfl)) hK hH 24 10 (by decide) (by decide) rfl rfl (by decide) (by decide) (by decide) (by decide) (by decide) (Nat.le_of_ble_eq_true rfl) (Nat.le_of_ble_eq_true rfl) (upA z39 10 (va_cpy (z39.2.1 24) (z39.2.1 10) (0 : Int32).toNatClampNeg (0 : Int32).toNatClampNeg (10 : Int32).toNatClampNeg)) rfl (enC_A _ _ _ _ _) dX0_become_113 (fun H locs hH => ?_)
        obtain ⟨z40, hz40⟩ : ∃ w : zS, w = upA z39 10 (va_cpy (z39.2.1 24) (z39.2.1 10) (0 : Int32).toNatClampNeg (0 : Int32).toNatClampNeg (10 : Int32).toNatClampNeg) := ⟨_, rfl⟩
        rw [← hz40] at hH
        have hJ : jJ IvC 7 8176 0 z0 z40 := by rw [hz40]; exact jJ_A hJ (by decide) (IvC_A hJ.1 (by decide))
        refine lv_aload_n hx hb dX0_become_116 rfl (lv_at hl 1 rfl) ?_
        refine b_get (ci := 0) (C := RX0) (T := TX0) (Nf := 11) (v := .ref (q 25)) hx hb hts in_X0_become_X0 hown hK hH 15 (by decide) rfl rfl 9 (by decide) (hts (.fieldLink RX0 42 "StationLine$Bench" "apart" "[I") (List.mem_of_getElem? (i := 13) rfl)) rfl dX0_become_117 ?_
        refine lv_iconst (v := 0) hx hb dX0_become_120 (by decide) ?_
        refine lv_aload_n hx hb dX0_become_121 rfl (lv_at hl 0 rfl) ?_
        refine b_get (ci := 0) (C := RX0) (T := TX0) (Nf := 11) (v := .ref (q 11)) hx hb hts in_X0_become_X0 hown hK hH 1 (by decide) rfl rfl 9 (by decide) (hts (.fieldLink RX0 42 "StationLine$Bench" "apart" "[I") (List.mem_of_getElem? (i := 13) rfl)) rfl dX0_become_122 ?_
        refine lv_iconst (v := 0) hx hb dX0_become_125 (by decide) ?_
        refine lv_bipush (v := 10) hx hb dX0_become_126 (by decide) ?_
        refine b_copyi hx hb (by rw [hml]; exact hl.1.symm) hown (hts (.methodLink RX0 51 arraycopyName) (List.mem_of_getElem? (i := 5) rfl)) (hts (.native arraycopyName) (List.mem_of_getElem? (i := 6) rfl)) (hts (.static arraycopyName) (List.mem_of_getElem? (i := 7) rfl)) (hts (.initialized "java/lang/System") (List.mem_of_getElem? (i := 8) rfl)) hK hH 25 11 (by decide) (by decide) rfl rfl (by decide) (by decide) (by decide) (by decide) (by decide) (Nat.le_of_ble_eq_true rfl) (Nat.le_of_ble_eq_true rfl) (upA z40 11 (va_cpy (z40.2.1 25) (z40.2.1 11) (0 : Int32).toNatClampNeg (0 : Int32).toNatClampNeg (10 : Int32).toNatClampNeg)) rfl (enC_A _ _ _ _ _) dX0_become_128 (fun H locs hH => ?_)
        obtain ⟨z41, hz41⟩ : ∃ w : zS, w = upA z40 11 (va_cpy (z40.2.1 25) (z40.2.1 11) (0 : Int32).toNatClampNeg (0 : Int32).toNatClampNeg (10 : Int32).toNatClampNeg) := ⟨_, rfl⟩
        rw [← hz41] at hH
        have hJ : jJ IvC 7 8176 0 z0 z41 := by rw [hz41]; exact jJ_A hJ (by decide) (IvC_A hJ.1 (by decide))
        refine lv_aload_n hx hb dX0_become_131 rfl (lv_at hl 1 rfl) ?_
        refine b_get (ci := 0) (C := RX0) (T := TX0) (Nf := 11) (v := .ref (q 26)) hx hb hts in_X0_become_X0 hown hK hH 15 (by decide) rfl rfl 10 (by decide) (hts (.fieldLink RX0 45 "StationLine$Bench" "held" "[I") (List.mem_of_getElem? (i := 14) rfl)) rfl dX0_become_132 ?_
        refine lv_iconst (v := 0) hx hb dX0_become_135 (by decide) ?_
        refine lv_aload_n hx hb dX0_become_136 rfl (lv_at hl 0 rfl) ?_
        refine b_get (ci := 0) (C := RX0) (T := TX0) (Nf := 11) (v := .ref (q 12)) hx hb hts in_X0_become_X0 hown hK hH 1 (by decide) rfl rfl 10 (by decide) (hts (.fieldLink RX0 45 "StationLine$Bench" "held" "[I") (List.mem_of_getElem? (i := 14) rfl)) rfl dX0_become_137 ?_
        refine lv_iconst (v := 0) hx hb dX0_become_140 (by decide) ?_
        refine lv_bipush (v := 10) hx hb dX0_become_141 (by decide) ?_
        refine b_copyi hx hb (by rw [hml]; exact hl.1.symm) hown (hts (.methodLink RX0 51 arraycopyName) (List.mem_of_getElem? (i := 5) rfl)) (hts (.native arraycopyName) (List.mem_of_getElem? (i := 6) rfl)) (hts (.static arraycopyName) (List.mem_of_getElem? (i := 7) rfl)) (hts (.initialized "java/lang/System") (List.mem_of_getElem? (i := 8) rfl)) hK hH 26 12 (by decide) (by decide) rfl rfl (by decide) (by decide) (by decide) (by decide) (by decide) (Nat.le_of_ble_eq_true rfl) (Nat.le_of_ble_eq_true rfl) (upA z41 12 (va_cpy (z41.2.1 26) (z41.2.1 12) (0 : Int32).toNatClampNeg (0 : Int32).toNatClampNeg (10 : Int32).toNatClampNeg)) rfl (enC_A _ _ _ _ _) dX0_become_143 (fun H locs hH => ?_)
        obtain ⟨z42, hz42⟩ : ∃ w : zS, w = upA z41 12 (va_cpy (z41.2.1 26) (z41.2.1 12) (0 : Int32).toNatClampNeg (0 : Int32).toNatClampNeg (10 : Int32).toNatClampNeg) := ⟨_, rfl⟩
        rw [← hz42] at hH
        have hJ : jJ IvC 7 8176 0 z0 z42 := by rw [hz42]; exact jJ_A hJ (by decide) (IvC_A hJ.1 (by decide))
        exact hret z42 H locs _ _ ⟨hJ, (by rw [(((show z42.1 0 = z41.1 0 by rw [hz42]; first | rfl | exact upA_n (by omega))).trans (((show z41.1 0 = z40.1 0 by rw [hz41]; first | rfl | exact upA_n (by omega))).trans (((show z40.1 0 = z39.1 0 by rw [hz40]; first | rfl | exact upA_n (by omega))).trans (((show z39.1 0 = z38.1 0 by rw [hz39]; first | rfl | exact upA_n (by omega))).trans (((show z38.1 0 = z37.1 0 by rw [hz38]; first | rfl | exact upA_n (by omega))).trans ((show z37.1 0 = z_26.1 0 by rw [hz37]; first | rfl | exact upA_n (by omega)))))))), (((show z42.1 1 = z41.1 1 by rw [hz42]; first | rfl | exact upA_n (by omega))).trans (((show z41.1 1 = z40.1 1 by rw [hz41]; first | rfl | exact upA_n (by omega))).trans (((show z40.1 1 = z39.1 1 by rw [hz40]; first | rfl | exact upA_n (by omega))).trans (((show z39.1 1 = z38.1 1 by rw [hz39]; first | rfl | exact upA_n (by omega))).trans (((show z38.1 1 = z37.1 1 by rw [hz38]; first | rfl | exact upA_n (by omega))).trans ((show z37.1 1 = z_26.1 1 by rw [hz37]; first | rfl | exact upA_n (by omega)))))))), (((show z42.1 2 = z41.1 2 by rw [hz42]; first | rfl | exact upA_n (by omega))).trans (((show z41.1 2 = z40.1 2 by rw [hz41]; first | rfl | exact upA_n (by omega))).trans (((show z40.1 2 = z39.1 2 by rw [hz40]; first | rfl | exact upA_n (by omega))).trans (((show z39.1 2 = z38.1 2 by rw [hz39]; first | rfl | exact upA_n (by omega))).trans (((show z38.1 2 = z37.1 2 by rw [hz38]; first | rfl | exact upA_n (by omega))).trans ((show z37.1 2 = z_26.1 2 by rw [hz37]; first | rfl | exact upA_n (by omega))))))))]; exact ex_26.1), ⟨fun i hi => (congrFun ((((show z42.2.1 7 = z41.2.1 7 by rw [hz42]; first | rfl | exact upA_n (by omega))).trans (((show z41.2.1 7 = z40.2.1 7 by rw [hz41]; first | rfl | exact upA_n (by omega))).trans (((show z40.2.1 7 = z39.2.1 7 by rw [hz40]; first | rfl | exact upA_n (by omega))).trans (((show z39.2.1 7 = z38.2.1 7 by rw [hz39]; first | rfl | exact upA_n (by omega))).trans ((show z38.2.1 7 = z37.2.1 7 by rw [hz38]; first | rfl | exact upA_n (by omega)))))))) i).trans ((show z37.2.1 7 i = z_26.2.1 21 i by rw [hz37, upA_e]; exact cpy10 hi).trans (congrFun (((((show z42.2.1 21 = z41.2.1 21 by rw [hz42]; first | rfl | exact upA_n (by omega))).trans (((show z41.2.1 21 = z40.2.1 21 by rw [hz41]; first | rfl | exact upA_n (by omega))).trans (((show z40.2.1 21 = z39.2.1 21 by rw [hz40]; first | rfl | exact upA_n (by omega))).trans (((show z39.2.1 21 = z38.2.1 21 by rw [hz39]; first | rfl | exact upA_n (by omega))).trans (((show z38.2.1 21 = z37.2.1 21 by rw [hz38]; first | rfl | exact upA_n (by omega))).trans ((show z37.2.1 21 = z_26.2.1 21 by rw [hz37]; first | rfl | exact upA_n (by omega))))))))).symm.trans (hJ.2.2.1 21 (by decide))) i)), fun i hi => (congrFun ((((show z42.2.1 8 = z41.2.1 8 by rw [hz42]; first | rfl | exact upA_n (by omega))).trans (((show z41.2.1 8 = z40.2.1 8 by rw [hz41]; first | rfl | exact upA_n (by omega))).trans (((show z40.2.1 8 = z39.2.1 8 by rw [hz40]; first | rfl | exact upA_n (by omega))).trans ((show z39.2.1 8 = z38.2.1 8 by rw [hz39]; first | rfl | exact upA_n (by omega))))))) i).trans ((show z38.2.1 8 i = z37.2.1 22 i by rw [hz38, upA_e]; exact cpy10 hi).trans (congrFun (((((show z42.2.1 22 = z41.2.1 22 by rw [hz42]; first | rfl | exact upA_n (by omega))).trans (((show z41.2.1 22 = z40.2.1 22 by rw [hz41]; first | rfl | exact upA_n (by omega))).trans (((show z40.2.1 22 = z39.2.1 22 by rw [hz40]; first | rfl | exact upA_n (by omega))).trans (((show z39.2.1 22 = z38.2.1 22 by rw [hz39]; first | rfl | exact upA_n (by omega))).trans ((show z38.2.1 22 = z37.2.1 22 by rw [hz38]; first | rfl | exact upA_n (by omega)))))))).symm.trans (hJ.2.2.1 22 (by decide))) i)), fun i hi => (congrFun ((((show z42.2.1 9 = z41.2.1 9 by rw [hz42]; first | rfl | exact upA_n (by omega))).trans (((show z41.2.1 9 = z40.2.1 9 by rw [hz41]; first | rfl | exact upA_n (by omega))).trans ((show z40.2.1 9 = z39.2.1 9 by rw [hz40]; first | rfl | exact upA_n (by omega)))))) i).trans ((show z39.2.1 9 i = z38.2.1 23 i by rw [hz39, upA_e]; exact cpy10 hi).trans (congrFun (((((show z42.2.1 23 = z41.2.1 23 by rw [hz42]; first | rfl | exact upA_n (by omega))).trans (((show z41.2.1 23 = z40.2.1 23 by rw [hz41]; first | rfl | exact upA_n (by omega))).trans (((show z40.2.1 23 = z39.2.1 23 by rw [hz40]; first | rfl | exact upA_n (by omega))).trans ((show z39.2.1 23 = z38.2.1 23 by rw [hz39]; first | rfl | exact upA_n (by omega))))))).symm.trans (hJ.2.2.1 23 (by decide))) i)), fun i hi => (congrFun ((((show z42.2.1 10 = z41.2.1 10 by rw [hz42]; first | rfl | exact upA_n (by omega))).trans ((show z41.2.1 10 = z40.2.1 10 by rw [hz41]; first | rfl | exact upA_n (by omega))))) i).trans ((show z40.2.1 10 i = z39.2.1 24 i by rw [hz40, upA_e]; exact cpy10 hi).trans (congrFun (((((show z42.2.1 24 = z41.2.1 24 by rw [hz42]; first | rfl | exact upA_n (by omega))).trans (((show z41.2.1 24 = z40.2.1 24 by rw [hz41]; first | rfl | exact upA_n (by omega))).trans ((show z40.2.1 24 = z39.2.1 24 by rw [hz40]; first | rfl | exact upA_n (by omega)))))).symm.trans (hJ.2.2.1 24 (by decide))) i)), fun i hi => (congrFun (((show z42.2.1 11 = z41.2.1 11 by rw [hz42]; first | rfl | exact upA_n (by omega)))) i).trans ((show z41.2.1 11 i = z40.2.1 25 i by rw [hz41, upA_e]; exact cpy10 hi).trans (congrFun (((((show z42.2.1 25 = z41.2.1 25 by rw [hz42]; first | rfl | exact upA_n (by omega))).trans ((show z41.2.1 25 = z40.2.1 25 by rw [hz41]; first | rfl | exact upA_n (by omega))))).symm.trans (hJ.2.2.1 25 (by decide))) i)), fun i hi => (congrFun (rfl) i).trans ((show z42.2.1 12 i = z41.2.1 26 i by rw [hz42, upA_e]; exact cpy10 hi).trans (congrFun ((((show z42.2.1 26 = z41.2.1 26 by rw [hz42]; first | rfl | exact upA_n (by omega)))).symm.trans (hJ.2.2.1 26 (by decide))) i))⟩, (BcT_fin ex_26.2 (by have h9 := k36b; have := h9.1; have := h9.2; have := iv_nat h9 (by decide); omega) (same_tr (same_tr (same_tr (same_tr (same_tr (fun a b ha _ => congrFun (show z37.2.1 (4 + a) = z_26.2.1 (4 + a) by rw [hz37]; first | rfl | exact upA_n (by omega)) b) (fun a b ha _ => congrFun (show z38.2.1 (4 + a) = z37.2.1 (4 + a) by rw [hz38]; first | rfl | exact upA_n (by omega)) b)) (fun a b ha _ => congrFun (show z39.2.1 (4 + a) = z38.2.1 (4 + a) by rw [hz39]; first | rfl | exact upA_n (by omega)) b)) (fun a b ha _ => congrFun (show z40.2.1 (4 + a) = z39.2.1 (4 + a) by rw [hz40]; first | rfl | exact upA_n (by omega)) b)) (fun a b ha _ => congrFun (show z41.2.1 (4 + a) = z40.2.1 (4 + a) by rw [hz41]; first | rfl | exact upA_n (by omega)) b)) (fun a b ha _ => congrFun (show z42.2.1 (4 + a) = z41.2.1 (4 + a) by rw [hz42]; first | rfl | exact upA_n (by omega)) b)))⟩ hH dX0_become_146
      · skip
        have k43a : iv 0 2 x2_26 := iv_ltl (iv_nLe c35) h2_26 (iv_lit (n := 3) 3 (by decide)) (by decide)
        refine lv_aload_n hx hb dX0_become_31 rfl (lv_at hl 1 rfl) ?_
        refine b_get (ci := 0) (C := RX0) (T := TX0) (Nf := 11) (v := .ref (q 17)) hx hb hts in_X0_become_X0 hown hK hH 15 (by decide) rfl rfl 4 (by decide) (hts (.fieldLink RX0 27 "StationLine$Bench" "times" "[[I") (List.mem_of_getElem? (i := 4) rfl)) rfl dX0_become_32 ?_
        refine lv_iload_n hx hb dX0_become_35 rfl (lv_at hl 2 rfl) ?_
        refine h_aaldE (n := 3) hx hb hK hH 17 3 18 (by decide) rfl rfl (iv_in k43a (by decide) (by decide)) dX0_become_36 (fun k44 hk44 ek44 => ?_)
        refine lv_iconst (v := 0) hx hb dX0_become_37 (by decide) ?_
        refine lv_aload_n hx hb dX0_become_38 rfl (lv_at hl 0 rfl) ?_
        refine b_get (ci := 0) (C := RX0) (T := TX0) (Nf := 11) (v := .ref (q 3)) hx hb hts in_X0_become_X0 hown hK hH 1 (by decide) rfl rfl 4 (by decide) (hts (.fieldLink RX0 27 "StationLine$Bench" "times" "[[I") (List.mem_of_getElem? (i := 4) rfl)) rfl dX0_become_39 ?_
        refine lv_iload_n hx hb dX0_become_42 rfl (lv_at hl 2 rfl) ?_
        refine h_aaldE (n := 3) hx hb hK hH 3 3 4 (by decide) rfl rfl (iv_in k43a (by decide) (by decide)) dX0_become_43 (fun k45 hk45 ek45 => ?_)
        refine lv_iconst (v := 0) hx hb dX0_become_44 (by decide) ?_
        refine lv_bipush (v := 10) hx hb dX0_become_45 (by decide) ?_
        refine b_copyi hx hb (by rw [hml]; exact hl.1.symm) hown (hts (.methodLink RX0 51 arraycopyName) (List.mem_of_getElem? (i := 5) rfl)) (hts (.native arraycopyName) (List.mem_of_getElem? (i := 6) rfl)) (hts (.static arraycopyName) (List.mem_of_getElem? (i := 7) rfl)) (hts (.initialized "java/lang/System") (List.mem_of_getElem? (i := 8) rfl)) hK hH k44 k45 (Nat.lt_of_lt_of_le hk44.2 (by decide)) (Nat.lt_of_lt_of_le hk45.2 (by decide)) (enC_g18 cy q _ k44 hk44) (enC_g4 cy q _ k45 hk45) (by decide) (by decide) (by decide) (by decide) (by decide) (Nat.le_of_ble_eq_true rfl) (Nat.le_of_ble_eq_true rfl) (upA z_26 k45 (va_cpy (z_26.2.1 k44) (z_26.2.1 k45) (0 : Int32).toNatClampNeg (0 : Int32).toNatClampNeg (10 : Int32).toNatClampNeg)) (enC_sa4 cy q _ k45 _ hk45) (enC_A _ _ _ _ _) dX0_become_47 (fun H locs hH => ?_)
        obtain ⟨z46, hz46⟩ : ∃ w : zS, w = upA z_26 k45 (va_cpy (z_26.2.1 k44) (z_26.2.1 k45) (0 : Int32).toNatClampNeg (0 : Int32).toNatClampNeg (10 : Int32).toNatClampNeg) := ⟨_, rfl⟩
        rw [← hz46] at hH
        have hJ : jJ IvC 7 8176 0 z0 z46 := by rw [hz46]; exact jJ_A hJ (tb_grp (g0 := 4) (n := 3) (by decide) hk45) (IvC_A hJ.1 (by omega))
        have j47 : iv 1 3 (x2_26 + 1) := iv_add k43a (iv_lit (n := 1) 1 (by decide)) (by decide) (by decide) (by decide) (by decide)
        have e47 : (x2_26 + 1).toInt = x2_26.toInt + 1 := (iv_addE k43a (iv_lit (n := 1) 1 (by decide)) (by decide) (by decide)).trans rfl
        refine lv_iinc (v := (x2_26 + 1)) (lv' := [(2, .int (x2_26 + 1)), (0, .ref (q 1)), (1, .ref (q 15))]) hx hb dX0_become_50 hl (k := 2) rfl rfl (by decide) rfl (fun ls hl => ?_)
        refine lv_goto (tgt := 26) hx hb dX0_become_53 (by decide) ?_
        exact ih26 _ (ms_up e47 j47.2 hn26) (x2_26 + 1) z46 H locs ls (iv_w j47 (by decide) (by decide)) ⟨(by rw [((show z46.1 0 = z_26.1 0 by rw [hz46]; first | rfl | exact upA_n (by omega))), ((show z46.1 1 = z_26.1 1 by rw [hz46]; first | rfl | exact upA_n (by omega))), ((show z46.1 2 = z_26.1 2 by rw [hz46]; first | rfl | exact upA_n (by omega)))]; exact ex_26.1), BcT_st ex_26.2 (ag_T 18 hJ.2.2.1 (by decide) (by decide) (by decide)) (by decide) ek45 ek44 (by have := k43a.2; have := iv_nat k43a (by decide); omega) hz46 (by have := iv_nat k43a (by decide); have := iv_nat j47 (by decide); omega)⟩ hJ hH (lv_sub hl [1, 2, 0] rfl) rfl
  refine lv_aload_n hx hb dX0_become_0 rfl (lv_at hl 0 rfl) ?_
  refine lv_aload_n hx hb dX0_become_1 rfl (lv_at hl 1 rfl) ?_
  refine b_get (ci := 0) (C := RX0) (T := TX0) (Nf := 11) (v := .int (z0.1 3)) hx hb hts in_X0_become_X0 hown hK hH 15 (by decide) rfl rfl 0 (by decide) (hts (.fieldLink RX0 9 "StationLine$Bench" "size" "I") (List.mem_of_getElem? (i := 1) rfl)) rfl dX0_become_2 ?_
  have i48 := IvC_s3 hJ.1
  refine b_put (ci := 0) (C := RX0) (T := TX0) (Nf := 11) (v := .int (z0.1 3)) (ty := .int) hx hb hts in_X0_become_X0 tyX0 tyX0_ok nmX0 hown hK hH 1 (by decide) rfl rfl 0 (by decide) (hts (.fieldLink RX0 9 "StationLine$Bench" "size" "I") (List.mem_of_getElem? (i := 1) rfl)) rfl (by decide +kernel) rfl rfl (Nat.le_of_ble_eq_true rfl) (upS z0 0 (z0.1 3)) rfl (enC_S0 _ _ _ _) dX0_become_5 (fun H locs hH => ?_)
  obtain ⟨z49, hz49⟩ : ∃ w : zS, w = upS z0 0 (z0.1 3) := ⟨_, rfl⟩
  rw [← hz49] at hH
  have hJ : jJ IvC 7 8176 0 z0 z49 := by rw [hz49]; exact jJ_S hJ (by decide) (IvC_S0 hJ.1 (iv_w i48 (by decide) (by decide)))
  have g50 : iv 0 10 (z49.1 0) := by rw [hz49]; exact i48
  refine lv_aload_n hx hb dX0_become_8 rfl (lv_at hl 0 rfl) ?_
  refine lv_aload_n hx hb dX0_become_9 rfl (lv_at hl 1 rfl) ?_
  refine b_get (ci := 0) (C := RX0) (T := TX0) (Nf := 11) (v := .int (z49.1 4)) hx hb hts in_X0_become_X0 hown hK hH 15 (by decide) rfl rfl 1 (by decide) (hts (.fieldLink RX0 15 "StationLine$Bench" "kind" "I") (List.mem_of_getElem? (i := 2) rfl)) rfl dX0_become_10 ?_
  refine b_put (ci := 0) (C := RX0) (T := TX0) (Nf := 11) (v := .int (z49.1 4)) (ty := .int) hx hb hts in_X0_become_X0 tyX0 tyX0_ok nmX0 hown hK hH 1 (by decide) rfl rfl 1 (by decide) (hts (.fieldLink RX0 15 "StationLine$Bench" "kind" "I") (List.mem_of_getElem? (i := 2) rfl)) rfl (by decide +kernel) rfl rfl (Nat.le_of_ble_eq_true rfl) (upS z49 1 (z49.1 4)) rfl (enC_S1 _ _ _ _) dX0_become_13 (fun H locs hH => ?_)
  obtain ⟨z51, hz51⟩ : ∃ w : zS, w = upS z49 1 (z49.1 4) := ⟨_, rfl⟩
  rw [← hz51] at hH
  have hJ : jJ IvC 7 8176 0 z0 z51 := by rw [hz51]; exact jJ_S hJ (by decide) (IvC_S1 hJ.1)
  refine lv_aload_n hx hb dX0_become_16 rfl (lv_at hl 0 rfl) ?_
  refine lv_aload_n hx hb dX0_become_17 rfl (lv_at hl 1 rfl) ?_
  refine b_get (ci := 0) (C := RX0) (T := TX0) (Nf := 11) (v := .int (z51.1 5)) hx hb hts in_X0_become_X0 hown hK hH 15 (by decide) rfl rfl 2 (by decide) (hts (.fieldLink RX0 18 "StationLine$Bench" "beat" "I") (List.mem_of_getElem? (i := 3) rfl)) rfl dX0_become_18 ?_
  refine b_put (ci := 0) (C := RX0) (T := TX0) (Nf := 11) (v := .int (z51.1 5)) (ty := .int) hx hb hts in_X0_become_X0 tyX0 tyX0_ok nmX0 hown hK hH 1 (by decide) rfl rfl 2 (by decide) (hts (.fieldLink RX0 18 "StationLine$Bench" "beat" "I") (List.mem_of_getElem? (i := 3) rfl)) rfl (by decide +kernel) rfl rfl (Nat.le_of_ble_eq_true rfl) (upS z51 2 (z51.1 5)) rfl (enC_S2 _ _ _ _) dX0_become_21 (fun H locs hH => ?_)
  obtain ⟨z52, hz52⟩ : ∃ w : zS, w = upS z51 2 (z51.1 5) := ⟨_, rfl⟩
  rw [← hz52] at hH
  have hJ : jJ IvC 7 8176 0 z0 z52 := by rw [hz52]; exact jJ_S hJ (by decide) (IvC_S2 hJ.1)
  refine lv_iconst (v := 0) hx hb dX0_become_24 (by decide) ?_
  refine lv_istore_n (lv' := [(2, .int 0), (0, .ref (q 1)), (1, .ref (q 15))]) hx hb dX0_become_25 rfl hl (by decide) rfl (fun ls hl => ?_)
  exact HL26 _ 0 z52 H locs ls (iv_w (iv_lit (n := 0) 0 (by decide)) (by decide) (by decide)) ⟨(by rw [hz52, hz51, hz49]; exact ⟨rfl, rfl, rfl⟩), BcT_0 (same_tr (same_tr (fun a b ha _ => congrFun (show z49.2.1 (4 + a) = z0.2.1 (4 + a) by rw [hz49]; first | rfl | exact upA_n (by omega)) b) (fun a b ha _ => congrFun (show z51.2.1 (4 + a) = z49.2.1 (4 + a) by rw [hz51]; first | rfl | exact upA_n (by omega)) b)) (fun a b ha _ => congrFun (show z52.2.1 (4 + a) = z51.2.1 (4 + a) by rw [hz52]; first | rfl | exact upA_n (by omega)) b))⟩ hJ hH (lv_sub hl [1, 2, 0] rfl) rfl
set_option maxHeartbeats 4000000 in
set_option maxRecDepth 100000 in
theorem g_X1_setAt_13 (l : Launch) (D : va_G) (cy : Nat → ClassId) (q : Nat → Nat) (hq : bJ 66 q) (z0 : zS) (hI : IvC z0) (p0 : Int32) : bCi l yX1_setAt wsX1_setAt ({ frames := 0, cells := 0, slots := 0, locals := 0 }) D cy 66 (enC cy) q z0 [.ref (q 13), .int p0] (fun v z => jJ IvC 0 0 0 z0 z ∧ iv 0 1023 v) := by
  refine hM_i cX1_setAt (by decide) rfl (own := RX1) rfl hq (Nat.le_of_ble_eq_true rfl) ?_
  intro p e s m args below meth c Q ls H locs hx hb hml hown hts hK hZ hH hl hret
  have hl : lv_has ls 4 [(0, .ref (q 13)), (1, .int p0)] := hl
  have hJ : jJ IvC 0 0 0 z0 z0 := jJ_rf _ _ _ hI
  have HL4 : ∀ (n : Nat) (x2_4 : Int32) (x3_4 : Int32) (H : Heap) (locs : List Loc) (ls : Array Slot), iv 0 1023 x2_4 → iv 0 10 x3_4 → bH D 66 (enC cy) q z0 s.heap H locs → lv_has ls 4 [(0, .ref (q 13)), (1, .int p0), (2, .int x2_4), (3, .int x3_4)] → (10 - x3_4.toInt).toNat = n → W p l e ({ frames := 0, cells := 0, slots := 0, locals := 0 }) s m args below meth c H locs 0 0 Q (F0 m 4 ls []) := by
    intro n4
    induction n4 using Nat.strongRecOn with
    | ind n4 ih4 =>
      intro x2_4 x3_4 H locs ls h2_4 h3_4 hH hl hn4
      have HJ31 : ∀ (x2_31 : Int32) (H : Heap) (locs : List Loc) (ls : Array Slot), iv 0 1023 x2_31 → iv 0 9 x3_4 → iv 1 10 (z0.1 0) → bH D 66 (enC cy) q z0 s.heap H locs → lv_has ls 4 [(0, .ref (q 13)), (1, .int p0), (2, .int x2_31), (3, .int x3_4)] → W p l e ({ frames := 0, cells := 0, slots := 0, locals := 0 }) s m args below meth c H locs 0 0 Q (F0 m 31 ls []) := by
        intro x2_31 H locs ls h2_31 h3_31 gh0_31 hH hl
        have j78 : iv 1 10 (x3_4 + 1) := iv_add h3_31 (iv_lit (n := 1) 1 (by decide)) (by decide) (by decide) (by decide) (by decide)
        have e78 : (x3_4 + 1).toInt = x3_4.toInt + 1 := (iv_addE h3_31 (iv_lit (n := 1) 1 (by decide)) (by decide) (by decide)).trans rfl
        refine lv_iinc (v := (x3_4 + 1)) (lv' := [(3, .int (x3_4 + 1)), (0, .ref (q 13)), (1, .int p0), (2, .int x2_31)]) hx hb dX1_setAt_31 hl (k := 3) rfl rfl (by decide) rfl (fun ls hl => ?_)
        refine lv_goto (tgt := 4) hx hb dX1_setAt_34 (by decide) ?_
        exact ih4 _ (ms_up e78 j78.2 hn4) x2_31 (x3_4 + 1)  H locs ls h2_31 (iv_w j78 (by decide) (by decide))  hH (lv_sub hl [1, 2, 3, 0] rfl) rfl
      refine lv_iload_n hx hb dX1_setAt_4 rfl (lv_at hl 3 rfl) ?_
      refine lv_aload_n hx hb dX1_setAt_5 rfl (lv_at hl 0 rfl) ?_
      refine b_get (ci := 1) (C := RX1) (T := TX1) (Nf := 2) (v := .ref (q 1)) hx hb hts in_X1_setAt_X1 hown hK hH 13 (by decide) rfl rfl 0 (by decide) (hts (.fieldLink RX1 15 "StationLine$Putting" "bench" "LStationLine$Bench;") (List.mem_of_getElem? (i := 1) rfl)) rfl dX1_setAt_6 ?_
      refine b_get (ci := 0) (C := RX0) (T := TX0) (Nf := 11) (v := .int (z0.1 0)) hx hb hts in_X1_setAt_X0 hown hK hH 1 (by decide) rfl rfl 0 (by decide) (hts (.fieldLink RX1 25 "StationLine$Bench" "size" "I") (List.mem_of_getElem? (i := 2) rfl)) rfl dX1_setAt_9 ?_
      have i79 := IvC_s0 hJ.1
      refine lv_icmp_ge (tgt := 37) hx hb dX1_setAt_12 (by decide) (fun c80 => ?_) (fun c80 => ?_)
      · skip
        refine lv_iload_n hx hb dX1_setAt_37 rfl (lv_at hl 2 rfl) ?_
        exact hret _ z0 H locs _ _ ⟨hJ, h2_4⟩ hH dX1_setAt_38
      · skip
        have k82a : iv 0 9 x3_4 := iv_ltl (iv_nLe c80) h3_4 i79 (by decide)
        have k82b : iv 1 10 (z0.1 0) := iv_ltr (iv_nLe c80) h3_4 i79 (by decide)
        refine lv_aload_n hx hb dX1_setAt_15 rfl (lv_at hl 0 rfl) ?_
        refine b_get (ci := 1) (C := RX1) (T := TX1) (Nf := 2) (v := .ref (q 14)) hx hb hts in_X1_setAt_X1 hown hK hH 13 (by decide) rfl rfl 1 (by decide) (hts (.fieldLink RX1 9 "StationLine$Putting" "row" "[I") (List.mem_of_getElem? (i := 3) rfl)) rfl dX1_setAt_16 ?_
        refine lv_iload_n hx hb dX1_setAt_19 rfl (lv_at hl 3 rfl) ?_
        refine b_iald (v := z0.2.1 14 (x3_4 : Int32).toNatClampNeg) hx hb hK hH 14 (by decide) rfl (iv_in k82a (by decide) (by decide)) rfl dX1_setAt_20 ?_
        have i83 : iv 0 10 (z0.2.1 14 (x3_4 : Int32).toNatClampNeg) := IvC_a14 hJ.1 _ (b_inlt (iv_in k82a (by decide) (by decide)))
        refine lv_iload_n hx hb dX1_setAt_21 rfl (lv_at hl 1 rfl) ?_
        refine lv_icmp_ne (tgt := 31) hx hb dX1_setAt_22 (by decide) (fun c84 => ?_) (fun c84 => ?_)
        · skip
          exact HJ31 x2_4  H locs ls h2_4 k82a k82b  hH (lv_sub hl [0, 1, 2, 3] rfl)
        · skip
          have k86b : iv 0 10 p0 := iv_eql ((iv_Eq c84)).symm (iv_all p0) i83 (by decide) (by decide)
          refine lv_iload_n hx hb dX1_setAt_25 rfl (lv_at hl 2 rfl) ?_
          refine lv_iconst (v := 1) hx hb dX1_setAt_26 (by decide) ?_
          refine lv_iload_n hx hb dX1_setAt_27 rfl (lv_at hl 3 rfl) ?_
          refine lv_ishl hx hb dX1_setAt_28 ?_
          refine h_i (a := 1) (b := 512) (iv_bit k82a (by decide) (by decide)) (fun w87 i87 => ?_)
          refine lv_ior hx hb dX1_setAt_29 ?_
          refine h_i (a := 0) (b := 1023) (iv_or 10 (b := 1023) (d := 512) (iv_w h2_4 (by decide) (by decide)) (iv_w i87 (by decide) (by decide)) (by decide) (by decide) (by decide) (by decide)) (fun w88 i88 => ?_)
          refine lv_istore_n (lv' := [(2, .int w88), (0, .ref (q 13)), (1, .int p0), (3, .int x3_4)]) hx hb dX1_setAt_30 rfl hl (by decide) rfl (fun ls hl => ?_)
          exact HJ31 w88  H locs ls i88 k82a k82b  hH (lv_sub hl [1, 2, 0, 3] rfl)
  refine lv_iconst (v := 0) hx hb dX1_setAt_0 (by decide) ?_
  refine lv_istore_n (lv' := [(2, .int 0), (0, .ref (q 13)), (1, .int p0)]) hx hb dX1_setAt_1 rfl hl (by decide) rfl (fun ls hl => ?_)
  refine lv_iconst (v := 0) hx hb dX1_setAt_2 (by decide) ?_
  refine lv_istore_n (lv' := [(3, .int 0), (2, .int 0), (0, .ref (q 13)), (1, .int p0)]) hx hb dX1_setAt_3 rfl hl (by decide) rfl (fun ls hl => ?_)
  exact HL4 _ 0 0  H locs ls (iv_w (iv_lit (n := 0) 0 (by decide)) (by decide) (by decide)) (iv_w (iv_lit (n := 0) 0 (by decide)) (by decide) (by decide))  hH (lv_sub hl [2, 3, 1, 0] rfl) rfl
set_option maxHeartbeats 4000000 in
set_option maxRecDepth 100000 in
theorem g_X1_setUpTo_13 (l : Launch) (D : va_G) (cy : Nat → ClassId) (q : Nat → Nat) (hq : bJ 66 q) (z0 : zS) (hI : IvC z0) (p0 : Int32) : bCi l yX1_setUpTo wsX1_setUpTo ({ frames := 0, cells := 0, slots := 0, locals := 0 }) D cy 66 (enC cy) q z0 [.ref (q 13), .int p0] (fun v z => jJ IvC 0 0 0 z0 z ∧ iv 0 1023 v) := by
  refine hM_i cX1_setUpTo (by decide) rfl (own := RX1) rfl hq (Nat.le_of_ble_eq_true rfl) ?_
  intro p e s m args below meth c Q ls H locs hx hb hml hown hts hK hZ hH hl hret
  have hl : lv_has ls 4 [(0, .ref (q 13)), (1, .int p0)] := hl
  have hJ : jJ IvC 0 0 0 z0 z0 := jJ_rf _ _ _ hI
  have HL4 : ∀ (n : Nat) (x2_4 : Int32) (x3_4 : Int32) (H : Heap) (locs : List Loc) (ls : Array Slot), iv 0 1023 x2_4 → iv 0 10 x3_4 → bH D 66 (enC cy) q z0 s.heap H locs → lv_has ls 4 [(0, .ref (q 13)), (1, .int p0), (2, .int x2_4), (3, .int x3_4)] → (10 - x3_4.toInt).toNat = n → W p l e ({ frames := 0, cells := 0, slots := 0, locals := 0 }) s m args below meth c H locs 0 0 Q (F0 m 4 ls []) := by
    intro n4
    induction n4 using Nat.strongRecOn with
    | ind n4 ih4 =>
      intro x2_4 x3_4 H locs ls h2_4 h3_4 hH hl hn4
      have HJ40 : ∀ (x2_40 : Int32) (H : Heap) (locs : List Loc) (ls : Array Slot), iv 0 1023 x2_40 → iv 0 9 x3_4 → iv 1 10 (z0.1 0) → bH D 66 (enC cy) q z0 s.heap H locs → lv_has ls 4 [(0, .ref (q 13)), (1, .int p0), (2, .int x2_40), (3, .int x3_4)] → W p l e ({ frames := 0, cells := 0, slots := 0, locals := 0 }) s m args below meth c H locs 0 0 Q (F0 m 40 ls []) := by
        intro x2_40 H locs ls h2_40 h3_40 gh0_40 hH hl
        have j106 : iv 1 10 (x3_4 + 1) := iv_add h3_40 (iv_lit (n := 1) 1 (by decide)) (by decide) (by decide) (by decide) (by decide)
        have e106 : (x3_4 + 1).toInt = x3_4.toInt + 1 := (iv_addE h3_40 (iv_lit (n := 1) 1 (by decide)) (by decide) (by decide)).trans rfl
        refine lv_iinc (v := (x3_4 + 1)) (lv' := [(3, .int (x3_4 + 1)), (0, .ref (q 13)), (1, .int p0), (2, .int x2_40)]) hx hb dX1_setUpTo_40 hl (k := 3) rfl rfl (by decide) rfl (fun ls hl => ?_)
        refine lv_goto (tgt := 4) hx hb dX1_setUpTo_43 (by decide) ?_
        exact ih4 _ (ms_up e106 j106.2 hn4) x2_40 (x3_4 + 1)  H locs ls h2_40 (iv_w j106 (by decide) (by decide))  hH (lv_sub hl [1, 2, 3, 0] rfl) rfl
      refine lv_iload_n hx hb dX1_setUpTo_4 rfl (lv_at hl 3 rfl) ?_
      refine lv_aload_n hx hb dX1_setUpTo_5 rfl (lv_at hl 0 rfl) ?_
      refine b_get (ci := 1) (C := RX1) (T := TX1) (Nf := 2) (v := .ref (q 1)) hx hb hts in_X1_setUpTo_X1 hown hK hH 13 (by decide) rfl rfl 0 (by decide) (hts (.fieldLink RX1 15 "StationLine$Putting" "bench" "LStationLine$Bench;") (List.mem_of_getElem? (i := 1) rfl)) rfl dX1_setUpTo_6 ?_
      refine b_get (ci := 0) (C := RX0) (T := TX0) (Nf := 11) (v := .int (z0.1 0)) hx hb hts in_X1_setUpTo_X0 hown hK hH 1 (by decide) rfl rfl 0 (by decide) (hts (.fieldLink RX1 25 "StationLine$Bench" "size" "I") (List.mem_of_getElem? (i := 2) rfl)) rfl dX1_setUpTo_9 ?_
      have i107 := IvC_s0 hJ.1
      refine lv_icmp_ge (tgt := 46) hx hb dX1_setUpTo_12 (by decide) (fun c108 => ?_) (fun c108 => ?_)
      · skip
        refine lv_iload_n hx hb dX1_setUpTo_46 rfl (lv_at hl 2 rfl) ?_
        exact hret _ z0 H locs _ _ ⟨hJ, h2_4⟩ hH dX1_setUpTo_47
      · skip
        have k110a : iv 0 9 x3_4 := iv_ltl (iv_nLe c108) h3_4 i107 (by decide)
        have k110b : iv 1 10 (z0.1 0) := iv_ltr (iv_nLe c108) h3_4 i107 (by decide)
        refine lv_aload_n hx hb dX1_setUpTo_15 rfl (lv_at hl 0 rfl) ?_
        refine b_get (ci := 1) (C := RX1) (T := TX1) (Nf := 2) (v := .ref (q 14)) hx hb hts in_X1_setUpTo_X1 hown hK hH 13 (by decide) rfl rfl 1 (by decide) (hts (.fieldLink RX1 9 "StationLine$Putting" "row" "[I") (List.mem_of_getElem? (i := 3) rfl)) rfl dX1_setUpTo_16 ?_
        refine lv_iload_n hx hb dX1_setUpTo_19 rfl (lv_at hl 3 rfl) ?_
        refine b_iald (v := z0.2.1 14 (x3_4 : Int32).toNatClampNeg) hx hb hK hH 14 (by decide) rfl (iv_in k110a (by decide) (by decide)) rfl dX1_setUpTo_20 ?_
        have i111 : iv 0 10 (z0.2.1 14 (x3_4 : Int32).toNatClampNeg) := IvC_a14 hJ.1 _ (b_inlt (iv_in k110a (by decide) (by decide)))
        refine lv_if_le (tgt := 40) hx hb dX1_setUpTo_21 (by decide) (fun c112 => ?_) (fun c112 => ?_)
        · skip
          have k113a : iv 0 0 (z0.2.1 14 (x3_4 : Int32).toNatClampNeg) := iv_lel (iv_Le c112) i111 (iv_lit (n := 0) 0 (by decide))
          exact HJ40 x2_4  H locs ls h2_4 k110a k110b  hH (lv_sub hl [0, 1, 2, 3] rfl)
        · skip
          have k114b : iv 1 10 (z0.2.1 14 (x3_4 : Int32).toNatClampNeg) := iv_ltr (iv_nLe c112) (iv_lit (n := 0) 0 (by decide)) i111 (by decide)
          refine lv_aload_n hx hb dX1_setUpTo_24 rfl (lv_at hl 0 rfl) ?_
          refine b_get (ci := 1) (C := RX1) (T := TX1) (Nf := 2) (v := .ref (q 14)) hx hb hts in_X1_setUpTo_X1 hown hK hH 13 (by decide) rfl rfl 1 (by decide) (hts (.fieldLink RX1 9 "StationLine$Putting" "row" "[I") (List.mem_of_getElem? (i := 3) rfl)) rfl dX1_setUpTo_25 ?_
          refine lv_iload_n hx hb dX1_setUpTo_28 rfl (lv_at hl 3 rfl) ?_
          refine b_iald (v := z0.2.1 14 (x3_4 : Int32).toNatClampNeg) hx hb hK hH 14 (by decide) rfl (iv_in k110a (by decide) (by decide)) rfl dX1_setUpTo_29 ?_
          have i115 : iv 0 10 (z0.2.1 14 (x3_4 : Int32).toNatClampNeg) := IvC_a14 hJ.1 _ (b_inlt (iv_in k110a (by decide) (by decide)))
          refine lv_iload_n hx hb dX1_setUpTo_30 rfl (lv_at hl 1 rfl) ?_
          refine lv_icmp_gt (tgt := 40) hx hb dX1_setUpTo_31 (by decide) (fun c116 => ?_) (fun c116 => ?_)
          · skip
            have k117a : iv (-2147483648) 9 p0 := iv_ltl (iv_Lt c116) (iv_all p0) i115 (by decide)
            exact HJ40 x2_4  H locs ls h2_4 k110a k110b  hH (lv_sub hl [0, 1, 2, 3] rfl)
          · skip
            have k118b : iv 0 2147483647 p0 := iv_ler (iv_nLt c116) i115 (iv_all p0)
            refine lv_iload_n hx hb dX1_setUpTo_34 rfl (lv_at hl 2 rfl) ?_
            refine lv_iconst (v := 1) hx hb dX1_setUpTo_35 (by decide) ?_
            refine lv_iload_n hx hb dX1_setUpTo_36 rfl (lv_at hl 3 rfl) ?_
            refine lv_ishl hx hb dX1_setUpTo_37 ?_
            refine h_i (a := 1) (b := 512) (iv_bit k110a (by decide) (by decide)) (fun w119 i119 => ?_)
            refine lv_ior hx hb dX1_setUpTo_38 ?_
            refine h_i (a := 0) (b := 1023) (iv_or 10 (b := 1023) (d := 512) (iv_w h2_4 (by decide) (by decide)) (iv_w i119 (by decide) (by decide)) (by decide) (by decide) (by decide) (by decide)) (fun w120 i120 => ?_)
            refine lv_istore_n (lv' := [(2, .int w120), (0, .ref (q 13)), (1, .int p0), (3, .int x3_4)]) hx hb dX1_setUpTo_39 rfl hl (by decide) rfl (fun ls hl => ?_)
            exact HJ40 w120  H locs ls i120 k110a k110b  hH (lv_sub hl [1, 2, 0, 3] rfl)
  refine lv_iconst (v := 0) hx hb dX1_setUpTo_0 (by decide) ?_
  refine lv_istore_n (lv' := [(2, .int 0), (0, .ref (q 13)), (1, .int p0)]) hx hb dX1_setUpTo_1 rfl hl (by decide) rfl (fun ls hl => ?_)
  refine lv_iconst (v := 0) hx hb dX1_setUpTo_2 (by decide) ?_
  refine lv_istore_n (lv' := [(3, .int 0), (2, .int 0), (0, .ref (q 13)), (1, .int p0)]) hx hb dX1_setUpTo_3 rfl hl (by decide) rfl (fun ls hl => ?_)
  exact HL4 _ 0 0  H locs ls (iv_w (iv_lit (n := 0) 0 (by decide)) (by decide) (by decide)) (iv_w (iv_lit (n := 0) 0 (by decide)) (by decide) (by decide))  hH (lv_sub hl [2, 3, 1, 0] rfl) rfl
set_option maxHeartbeats 4000000 in
set_option maxRecDepth 100000 in
theorem g_X1_greatest_13 (l : Launch) (D : va_G) (cy : Nat → ClassId) (q : Nat → Nat) (hq : bJ 66 q) (z0 : zS) (hI : IvC z0)  : bCi l yX1_greatest wsX1_greatest ({ frames := 1, cells := 0, slots := 0, locals := 28 }) D cy 66 (enC cy) q z0 [.ref (q 13)] (fun v z => jJ IvC 0 0 0 z0 z ∧ iv 0 10 v) := by
  refine hM_i cX1_greatest (by decide) rfl (own := RX1) rfl hq (Nat.le_of_ble_eq_true rfl) ?_
  intro p e s m args below meth c Q ls H locs hx hb hml hown hts hK hZ hH hl hret
  have hl : lv_has ls 3 [(0, .ref (q 13))] := hl
  have hJ : jJ IvC 0 0 0 z0 z0 := jJ_rf _ _ _ hI
  have HL4 : ∀ (n : Nat) (x1_4 : Int32) (x2_4 : Int32) (H : Heap) (locs : List Loc) (ls : Array Slot), iv 0 10 x1_4 → iv 0 10 x2_4 → bH D 66 (enC cy) q z0 s.heap H locs → lv_has ls 3 [(0, .ref (q 13)), (1, .int x1_4), (2, .int x2_4)] → (10 - x2_4.toInt).toNat = n → W p l e ({ frames := 1, cells := 0, slots := 0, locals := 28 }) s m args below meth c H locs 0 0 Q (F0 m 4 ls []) := by
    intro n4
    induction n4 using Nat.strongRecOn with
    | ind n4 ih4 =>
      intro x1_4 x2_4 H locs ls h1_4 h2_4 hH hl hn4
      refine lv_iload_n hx hb dX1_greatest_4 rfl (lv_at hl 2 rfl) ?_
      refine lv_aload_n hx hb dX1_greatest_5 rfl (lv_at hl 0 rfl) ?_
      refine b_get (ci := 1) (C := RX1) (T := TX1) (Nf := 2) (v := .ref (q 1)) hx hb hts in_X1_greatest_X1 hown hK hH 13 (by decide) rfl rfl 0 (by decide) (hts (.fieldLink RX1 15 "StationLine$Putting" "bench" "LStationLine$Bench;") (List.mem_of_getElem? (i := 1) rfl)) rfl dX1_greatest_6 ?_
      refine b_get (ci := 0) (C := RX0) (T := TX0) (Nf := 11) (v := .int (z0.1 0)) hx hb hts in_X1_greatest_X0 hown hK hH 1 (by decide) rfl rfl 0 (by decide) (hts (.fieldLink RX1 25 "StationLine$Bench" "size" "I") (List.mem_of_getElem? (i := 2) rfl)) rfl dX1_greatest_9 ?_
      have i50 := IvC_s0 hJ.1
      refine lv_icmp_ge (tgt := 32) hx hb dX1_greatest_12 (by decide) (fun c51 => ?_) (fun c51 => ?_)
      · skip
        refine lv_iload_n hx hb dX1_greatest_32 rfl (lv_at hl 1 rfl) ?_
        exact hret _ z0 H locs _ _ ⟨hJ, h1_4⟩ hH dX1_greatest_33
      · skip
        have k53a : iv 0 9 x2_4 := iv_ltl (iv_nLe c51) h2_4 i50 (by decide)
        have k53b : iv 1 10 (z0.1 0) := iv_ltr (iv_nLe c51) h2_4 i50 (by decide)
        refine lv_iload_n hx hb dX1_greatest_15 rfl (lv_at hl 1 rfl) ?_
        refine lv_aload_n hx hb dX1_greatest_16 rfl (lv_at hl 0 rfl) ?_
        refine b_get (ci := 1) (C := RX1) (T := TX1) (Nf := 2) (v := .ref (q 14)) hx hb hts in_X1_greatest_X1 hown hK hH 13 (by decide) rfl rfl 1 (by decide) (hts (.fieldLink RX1 9 "StationLine$Putting" "row" "[I") (List.mem_of_getElem? (i := 3) rfl)) rfl dX1_greatest_17 ?_
        refine lv_iload_n hx hb dX1_greatest_20 rfl (lv_at hl 2 rfl) ?_
        refine b_iald (v := z0.2.1 14 (x2_4 : Int32).toNatClampNeg) hx hb hK hH 14 (by decide) rfl (iv_in k53a (by decide) (by decide)) rfl dX1_greatest_21 ?_
        have i54 : iv 0 10 (z0.2.1 14 (x2_4 : Int32).toNatClampNeg) := IvC_a14 hJ.1 _ (b_inlt (iv_in k53a (by decide) (by decide)))
        refine va_mmax hx hb (by rw [hml]; exact hl.1.symm) hown (hts (.methodLink RX1 31 Lib.Math.max.name) (List.mem_of_getElem? (i := 4) rfl)) (hts (.static Lib.Math.max.name) (List.mem_of_getElem? (i := 5) rfl)) (hts (.initialized "java/lang/Math") (List.mem_of_getElem? (i := 6) rfl)) (hts (.code Lib.Math.max.name Lib.Math.max.code 2 (some .int)) (List.mem_of_getElem? (i := 7) rfl)) (Nat.le_of_ble_eq_true rfl) (Nat.le_of_ble_eq_true rfl) (Nat.zero_le _) (Nat.zero_le _) dX1_greatest_22 ?_
        refine h_i (a := 0) (b := 10) (iv_max h1_4 i54 (by decide) (by decide) (by decide)) (fun w55 i55 => ?_)
        refine lv_istore_n (lv' := [(1, .int w55), (0, .ref (q 13)), (2, .int x2_4)]) hx hb dX1_greatest_25 rfl hl (by decide) rfl (fun ls hl => ?_)
        have j56 : iv 1 10 (x2_4 + 1) := iv_add k53a (iv_lit (n := 1) 1 (by decide)) (by decide) (by decide) (by decide) (by decide)
        have e56 : (x2_4 + 1).toInt = x2_4.toInt + 1 := (iv_addE k53a (iv_lit (n := 1) 1 (by decide)) (by decide) (by decide)).trans rfl
        refine lv_iinc (v := (x2_4 + 1)) (lv' := [(2, .int (x2_4 + 1)), (1, .int w55), (0, .ref (q 13))]) hx hb dX1_greatest_26 hl (k := 2) rfl rfl (by decide) rfl (fun ls hl => ?_)
        refine lv_goto (tgt := 4) hx hb dX1_greatest_29 (by decide) ?_
        exact ih4 _ (ms_up e56 j56.2 hn4) w55 (x2_4 + 1)  H locs ls i55 (iv_w j56 (by decide) (by decide))  hH (lv_sub hl [2, 1, 0] rfl) rfl
  refine lv_iconst (v := 0) hx hb dX1_greatest_0 (by decide) ?_
  refine lv_istore_n (lv' := [(1, .int 0), (0, .ref (q 13))]) hx hb dX1_greatest_1 rfl hl (by decide) rfl (fun ls hl => ?_)
  refine lv_iconst (v := 0) hx hb dX1_greatest_2 (by decide) ?_
  refine lv_istore_n (lv' := [(2, .int 0), (1, .int 0), (0, .ref (q 13))]) hx hb dX1_greatest_3 rfl hl (by decide) rfl (fun ls hl => ?_)
  exact HL4 _ 0 0  H locs ls (iv_w (iv_lit (n := 0) 0 (by decide)) (by decide) (by decide)) (iv_w (iv_lit (n := 0) 0 (by decide)) (by decide) (by decide))  hH (lv_sub hl [2, 1, 0] rfl) rfl
set_option maxHeartbeats 4000000 in
set_option maxRecDepth 100000 in
theorem g_X1_causeOf_13 (l : Launch) (D : va_G) (cy : Nat → ClassId) (q : Nat → Nat) (hq : bJ 66 q) (z0 : zS) (hI : IvC z0) (p0 : Int32) (hp0 : iv 0 9 p0) : bCi l yX1_causeOf wsX1_causeOf ({ frames := 3, cells := 0, slots := 0, locals := 74 }) D cy 66 (enC cy) q z0 [.ref (q 13), .int p0] (fun v z => jJ IvC 0 0 0 z0 z ∧ iv 0 6 v) := by
  refine hM_i cX1_causeOf (by decide) rfl (own := RX1) rfl hq (Nat.le_of_ble_eq_true rfl) ?_
  intro p e s m args below meth c Q ls H locs hx hb hml hown hts hK hZ hH hl hret
  have hl : lv_has ls 4 [(0, .ref (q 13)), (1, .int p0)] := hl
  have hJ : jJ IvC 0 0 0 z0 z0 := jJ_rf _ _ _ hI
  have HJ100 : ∀ (x2_100 : Int32) (H : Heap) (locs : List Loc) (ls : Array Slot), iv 1 10 x2_100 → bH D 66 (enC cy) q z0 s.heap H locs → lv_has ls 4 [(0, .ref (q 13)), (1, .int p0), (2, .int x2_100)] → W p l e ({ frames := 3, cells := 0, slots := 0, locals := 74 }) s m args below meth c H locs 0 0 Q (F0 m 100 ls []) := by
    intro x2_100 H locs ls h2_100 hH hl
    refine lv_aload_n hx hb dX1_causeOf_100 rfl (lv_at hl 0 rfl) ?_
    refine b_get (ci := 1) (C := RX1) (T := TX1) (Nf := 2) (v := .ref (q 1)) hx hb hts in_X1_causeOf_X1 hown hK hH 13 (by decide) rfl rfl 0 (by decide) (hts (.fieldLink RX1 15 "StationLine$Putting" "bench" "LStationLine$Bench;") (List.mem_of_getElem? (i := 2) rfl)) rfl dX1_causeOf_101 ?_
    refine lv_iload_n hx hb dX1_causeOf_104 rfl (lv_at hl 1 rfl) ?_
    refine lv_aload_n hx hb dX1_causeOf_105 rfl (lv_at hl 0 rfl) ?_
    refine lv_iload_n hx hb dX1_causeOf_106 rfl (lv_at hl 2 rfl) ?_
    refine b_calli (As := [.int x2_100]) (rest := [.int p0, .ref (q 1)]) ⟨hx, hb, hml, hown, hts⟩ 13 1 (g_X1_setUpTo_13 l D cy q hH.2.1 z0 hJ.1 x2_100) (cwV 1 hts gX1_causeOf_X1_setUpTo rfl rfl rfl (by decide +kernel) ⟨Nat.le_of_ble_eq_true rfl, Nat.le_of_ble_eq_true rfl⟩) hK hZ hH (by decide) rfl rfl rfl hl.1 rfl (Nat.le_of_ble_eq_true rfl) ⟨Nat.zero_le _, Nat.zero_le _⟩ dX1_causeOf_107 (fun w31 z31 H locs hp hH => ?_)
    rw [Ag_0 hp.1.2] at hH
    have i31 := hp.2
    refine b_calli (As := [.int p0, .int w31]) (rest := []) ⟨hx, hb, hml, hown, hts⟩ 1 0 (g_X0_isOpen_1 l D cy q hH.2.1 z0 hJ.1 p0 hp0 w31) (cwV 2 hts gX1_causeOf_X0_isOpen rfl rfl rfl (by decide +kernel) ⟨Nat.le_of_ble_eq_true rfl, Nat.le_of_ble_eq_true rfl⟩) hK hZ hH (by decide) rfl rfl rfl hl.1 rfl (Nat.le_of_ble_eq_true rfl) ⟨Nat.zero_le _, Nat.zero_le _⟩ dX1_causeOf_110 (fun w32 z32 H locs hp hH => ?_)
    rw [Ag_0 hp.1.2] at hH
    have i32 := hp.2
    refine lv_if_eq (tgt := 120) hx hb dX1_causeOf_113 (by decide) (fun c33 => ?_) (fun c33 => ?_)
    · skip
      have k34a : iv 0 0 w32 := iv_eql (iv_Eq c33) i32 (iv_lit (n := 0) 0 (by decide)) (by decide) (by decide)
      refine lv_bipush (v := 6) hx hb dX1_causeOf_120 (by decide) ?_
      exact hret _ z0 H locs _ _ ⟨hJ, (iv_w (iv_lit (n := 6) 6 (by decide)) (by decide) (by decide))⟩ hH dX1_causeOf_122
    · skip
      have k35a : iv 1 1 w32 := iv_neLo (iv_nEq c33) i32 (by decide) (by decide)
      refine lv_iconst (v := 0) hx hb dX1_causeOf_116 (by decide) ?_
      refine lv_goto (tgt := 122) hx hb dX1_causeOf_117 (by decide) ?_
      exact hret _ z0 H locs _ _ ⟨hJ, (iv_w (iv_lit (n := 0) 0 (by decide)) (by decide) (by decide))⟩ hH dX1_causeOf_122
  refine lv_aload_n hx hb dX1_causeOf_0 rfl (lv_at hl 0 rfl) ?_
  refine b_get (ci := 1) (C := RX1) (T := TX1) (Nf := 2) (v := .ref (q 14)) hx hb hts in_X1_causeOf_X1 hown hK hH 13 (by decide) rfl rfl 1 (by decide) (hts (.fieldLink RX1 9 "StationLine$Putting" "row" "[I") (List.mem_of_getElem? (i := 1) rfl)) rfl dX1_causeOf_1 ?_
  refine lv_iload_n hx hb dX1_causeOf_4 rfl (lv_at hl 1 rfl) ?_
  refine b_iald (v := z0.2.1 14 (p0 : Int32).toNatClampNeg) hx hb hK hH 14 (by decide) rfl (iv_in hp0 (by decide) (by decide)) rfl dX1_causeOf_5 ?_
  have i36 : iv 0 10 (z0.2.1 14 (p0 : Int32).toNatClampNeg) := IvC_a14 hJ.1 _ (b_inlt (iv_in hp0 (by decide) (by decide)))
  refine lv_istore_n (lv' := [(2, .int (z0.2.1 14 (p0 : Int32).toNatClampNeg)), (0, .ref (q 13)), (1, .int p0)]) hx hb dX1_causeOf_6 rfl hl (by decide) rfl (fun ls hl => ?_)
  refine lv_iload_n hx hb dX1_causeOf_7 rfl (lv_at hl 0 rfl) ?_
  refine lv_if_ne (tgt := 13) hx hb dX1_causeOf_8 (by decide) (fun c37 => ?_) (fun c37 => ?_)
  · skip
    have k38a : iv 1 10 (z0.2.1 14 (p0 : Int32).toNatClampNeg) := iv_neLo (iv_nEq c37) i36 (by decide) (by decide)
    refine lv_aload_n hx hb dX1_causeOf_13 rfl (lv_at hl 1 rfl) ?_
    refine lv_iload_n hx hb dX1_causeOf_14 rfl (lv_at hl 0 rfl) ?_
    refine b_calli (As := [.int (z0.2.1 14 (p0 : Int32).toNatClampNeg)]) (rest := []) ⟨hx, hb, hml, hown, hts⟩ 13 1 (g_X1_setAt_13 l D cy q hH.2.1 z0 hJ.1 (z0.2.1 14 (p0 : Int32).toNatClampNeg)) (cwV 1 hts gX1_causeOf_X1_setAt rfl rfl rfl (by decide +kernel) ⟨Nat.le_of_ble_eq_true rfl, Nat.le_of_ble_eq_true rfl⟩) hK hZ hH (by decide) rfl rfl rfl hl.1 rfl (Nat.le_of_ble_eq_true rfl) ⟨Nat.zero_le _, Nat.zero_le _⟩ dX1_causeOf_15 (fun w39 z39 H locs hp hH => ?_)
    rw [Ag_0 hp.1.2] at hH
    have i39 := hp.2
    refine lv_istore_n (lv' := [(3, .int w39), (2, .int (z0.2.1 14 (p0 : Int32).toNatClampNeg)), (0, .ref (q 13)), (1, .int p0)]) hx hb dX1_causeOf_18 rfl hl (by decide) rfl (fun ls hl => ?_)
    refine lv_aload_n hx hb dX1_causeOf_19 rfl (lv_at hl 2 rfl) ?_
    refine b_get (ci := 1) (C := RX1) (T := TX1) (Nf := 2) (v := .ref (q 1)) hx hb hts in_X1_causeOf_X1 hown hK hH 13 (by decide) rfl rfl 0 (by decide) (hts (.fieldLink RX1 15 "StationLine$Putting" "bench" "LStationLine$Bench;") (List.mem_of_getElem? (i := 2) rfl)) rfl dX1_causeOf_20 ?_
    refine lv_iload_n hx hb dX1_causeOf_23 rfl (lv_at hl 0 rfl) ?_
    refine b_calli (As := [.int w39]) (rest := []) ⟨hx, hb, hml, hown, hts⟩ 1 0 (g_X0_loadOf_1 l D cy q hH.2.1 z0 hJ.1 w39) (cwV 1 hts gX1_causeOf_X0_loadOf rfl rfl rfl (by decide +kernel) ⟨Nat.le_of_ble_eq_true rfl, Nat.le_of_ble_eq_true rfl⟩) hK hZ hH (by decide) rfl rfl rfl hl.1 rfl (Nat.le_of_ble_eq_true rfl) ⟨Nat.zero_le _, Nat.zero_le _⟩ dX1_causeOf_24 (fun w40 z40 H locs hp hH => ?_)
    rw [Ag_0 hp.1.2] at hH
    refine lv_aload_n hx hb dX1_causeOf_27 rfl (lv_at hl 2 rfl) ?_
    refine b_get (ci := 1) (C := RX1) (T := TX1) (Nf := 2) (v := .ref (q 1)) hx hb hts in_X1_causeOf_X1 hown hK hH 13 (by decide) rfl rfl 0 (by decide) (hts (.fieldLink RX1 15 "StationLine$Putting" "bench" "LStationLine$Bench;") (List.mem_of_getElem? (i := 2) rfl)) rfl dX1_causeOf_28 ?_
    refine b_calli (As := []) (rest := [.int w40]) ⟨hx, hb, hml, hown, hts⟩ 1 0 (g_X0_room_1 l D cy q hH.2.1 z0 hJ.1 ) (cwV 0 hts gX1_causeOf_X0_room rfl rfl rfl (by decide +kernel) ⟨Nat.le_of_ble_eq_true rfl, Nat.le_of_ble_eq_true rfl⟩) hK hZ hH (by decide) rfl rfl rfl hl.1 rfl (Nat.le_of_ble_eq_true rfl) ⟨Nat.zero_le _, Nat.zero_le _⟩ dX1_causeOf_31 (fun w41 z41 H locs hp hH => ?_)
    rw [Ag_0 hp.1.2] at hH
    refine lv_icmp_le (tgt := 39) hx hb dX1_causeOf_34 (by decide) (fun c42 => ?_) (fun c42 => ?_)
    · skip
      refine lv_aload_n hx hb dX1_causeOf_39 rfl (lv_at hl 2 rfl) ?_
      refine b_get (ci := 1) (C := RX1) (T := TX1) (Nf := 2) (v := .ref (q 1)) hx hb hts in_X1_causeOf_X1 hown hK hH 13 (by decide) rfl rfl 0 (by decide) (hts (.fieldLink RX1 15 "StationLine$Putting" "bench" "LStationLine$Bench;") (List.mem_of_getElem? (i := 2) rfl)) rfl dX1_causeOf_40 ?_
      refine b_get (ci := 0) (C := RX0) (T := TX0) (Nf := 11) (v := .ref (q 10)) hx hb hts in_X1_causeOf_X0 hown hK hH 1 (by decide) rfl rfl 8 (by decide) (hts (.fieldLink RX1 52 "StationLine$Bench" "together" "[I") (List.mem_of_getElem? (i := 3) rfl)) rfl dX1_causeOf_43 ?_
      refine lv_iload_n hx hb dX1_causeOf_46 rfl (lv_at hl 3 rfl) ?_
      refine b_iald (v := z0.2.1 10 (p0 : Int32).toNatClampNeg) hx hb hK hH 10 (by decide) rfl (iv_in hp0 (by decide) (by decide)) rfl dX1_causeOf_47 ?_
      refine lv_iload_n hx hb dX1_causeOf_48 rfl (lv_at hl 0 rfl) ?_
      refine lv_iconst (v := (-1)) hx hb dX1_causeOf_49 (by decide) ?_
      refine lv_ixor hx hb dX1_causeOf_50 ?_
      refine lv_topi (fun w44 _ => ?_)
      refine lv_iand hx hb dX1_causeOf_51 ?_
      refine lv_topi (fun w45 _ => ?_)
      refine lv_if_eq (tgt := 57) hx hb dX1_causeOf_52 (by decide) (fun c46 => ?_) (fun c46 => ?_)
      · skip
        have k47a : iv 0 0 w45 := iv_eql (iv_Eq c46) (iv_all w45) (iv_lit (n := 0) 0 (by decide)) (by decide) (by decide)
        refine lv_aload_n hx hb dX1_causeOf_57 rfl (lv_at hl 2 rfl) ?_
        refine b_get (ci := 1) (C := RX1) (T := TX1) (Nf := 2) (v := .ref (q 1)) hx hb hts in_X1_causeOf_X1 hown hK hH 13 (by decide) rfl rfl 0 (by decide) (hts (.fieldLink RX1 15 "StationLine$Putting" "bench" "LStationLine$Bench;") (List.mem_of_getElem? (i := 2) rfl)) rfl dX1_causeOf_58 ?_
        refine b_get (ci := 0) (C := RX0) (T := TX0) (Nf := 11) (v := .ref (q 11)) hx hb hts in_X1_causeOf_X0 hown hK hH 1 (by decide) rfl rfl 9 (by decide) (hts (.fieldLink RX1 55 "StationLine$Bench" "apart" "[I") (List.mem_of_getElem? (i := 4) rfl)) rfl dX1_causeOf_61 ?_
        refine lv_iload_n hx hb dX1_causeOf_64 rfl (lv_at hl 3 rfl) ?_
        refine b_iald (v := z0.2.1 11 (p0 : Int32).toNatClampNeg) hx hb hK hH 11 (by decide) rfl (iv_in hp0 (by decide) (by decide)) rfl dX1_causeOf_65 ?_
        refine lv_iload_n hx hb dX1_causeOf_66 rfl (lv_at hl 0 rfl) ?_
        refine lv_iand hx hb dX1_causeOf_67 ?_
        refine h_i (a := 0) (b := 1023) (iv_and2 (iv_all (z0.2.1 11 (p0 : Int32).toNatClampNeg)) i39 (by decide) (by decide)) (fun w48 i48 => ?_)
        refine lv_if_eq (tgt := 73) hx hb dX1_causeOf_68 (by decide) (fun c49 => ?_) (fun c49 => ?_)
        · skip
          have k50a : iv 0 0 w48 := iv_eql (iv_Eq c49) i48 (iv_lit (n := 0) 0 (by decide)) (by decide) (by decide)
          refine lv_aload_n hx hb dX1_causeOf_73 rfl (lv_at hl 2 rfl) ?_
          refine b_get (ci := 1) (C := RX1) (T := TX1) (Nf := 2) (v := .ref (q 1)) hx hb hts in_X1_causeOf_X1 hown hK hH 13 (by decide) rfl rfl 0 (by decide) (hts (.fieldLink RX1 15 "StationLine$Putting" "bench" "LStationLine$Bench;") (List.mem_of_getElem? (i := 2) rfl)) rfl dX1_causeOf_74 ?_
          refine b_get (ci := 0) (C := RX0) (T := TX0) (Nf := 11) (v := .ref (q 12)) hx hb hts in_X1_causeOf_X0 hown hK hH 1 (by decide) rfl rfl 10 (by decide) (hts (.fieldLink RX1 58 "StationLine$Bench" "held" "[I") (List.mem_of_getElem? (i := 5) rfl)) rfl dX1_causeOf_77 ?_
          refine lv_iload_n hx hb dX1_causeOf_80 rfl (lv_at hl 3 rfl) ?_
          refine b_iald (v := z0.2.1 12 (p0 : Int32).toNatClampNeg) hx hb hK hH 12 (by decide) rfl (iv_in hp0 (by decide) (by decide)) rfl dX1_causeOf_81 ?_
          refine lv_if_eq (tgt := 100) hx hb dX1_causeOf_82 (by decide) (fun c51 => ?_) (fun c51 => ?_)
          · skip
            have k52a : iv 0 0 (z0.2.1 12 (p0 : Int32).toNatClampNeg) := iv_eql (iv_Eq c51) (iv_all (z0.2.1 12 (p0 : Int32).toNatClampNeg)) (iv_lit (n := 0) 0 (by decide)) (by decide) (by decide)
            exact HJ100 (z0.2.1 14 (p0 : Int32).toNatClampNeg)  H locs ls k38a  hH (lv_sub hl [2, 3, 1] rfl)
          · skip
            refine lv_aload_n hx hb dX1_causeOf_85 rfl (lv_at hl 2 rfl) ?_
            refine b_get (ci := 1) (C := RX1) (T := TX1) (Nf := 2) (v := .ref (q 1)) hx hb hts in_X1_causeOf_X1 hown hK hH 13 (by decide) rfl rfl 0 (by decide) (hts (.fieldLink RX1 15 "StationLine$Putting" "bench" "LStationLine$Bench;") (List.mem_of_getElem? (i := 2) rfl)) rfl dX1_causeOf_86 ?_
            refine b_get (ci := 0) (C := RX0) (T := TX0) (Nf := 11) (v := .ref (q 12)) hx hb hts in_X1_causeOf_X0 hown hK hH 1 (by decide) rfl rfl 10 (by decide) (hts (.fieldLink RX1 58 "StationLine$Bench" "held" "[I") (List.mem_of_getElem? (i := 5) rfl)) rfl dX1_causeOf_89 ?_
            refine lv_iload_n hx hb dX1_causeOf_92 rfl (lv_at hl 3 rfl) ?_
            refine b_iald (v := z0.2.1 12 (p0 : Int32).toNatClampNeg) hx hb hK hH 12 (by decide) rfl (iv_in hp0 (by decide) (by decide)) rfl dX1_causeOf_93 ?_
            refine lv_iload_n hx hb dX1_causeOf_94 rfl (lv_at hl 1 rfl) ?_
            refine lv_icmp_eq (tgt := 100) hx hb dX1_causeOf_95 (by decide) (fun c54 => ?_) (fun c54 => ?_)
            · skip
              have k55a : iv 1 10 (z0.2.1 12 (p0 : Int32).toNatClampNeg) := iv_eql (iv_Eq c54) (iv_all (z0.2.1 12 (p0 : Int32).toNatClampNeg)) k38a (by decide) (by decide)
              exact HJ100 (z0.2.1 14 (p0 : Int32).toNatClampNeg)  H locs ls k38a  hH (lv_sub hl [2, 3, 1] rfl)
            · skip
              refine lv_iconst (v := 5) hx hb dX1_causeOf_98 (by decide) ?_
              exact hret _ z0 H locs _ _ ⟨hJ, (iv_w (iv_lit (n := 5) 5 (by decide)) (by decide) (by decide))⟩ hH dX1_causeOf_99
        · skip
          have k57a : iv 1 1023 w48 := iv_neLo (iv_nEq c49) i48 (by decide) (by decide)
          refine lv_iconst (v := 4) hx hb dX1_causeOf_71 (by decide) ?_
          exact hret _ z0 H locs _ _ ⟨hJ, (iv_w (iv_lit (n := 4) 4 (by decide)) (by decide) (by decide))⟩ hH dX1_causeOf_72
      · skip
        refine lv_iconst (v := 3) hx hb dX1_causeOf_55 (by decide) ?_
        exact hret _ z0 H locs _ _ ⟨hJ, (iv_w (iv_lit (n := 3) 3 (by decide)) (by decide) (by decide))⟩ hH dX1_causeOf_56
    · skip
      have k59a : iv (-2147483648) 2147483646 w41 := iv_ltl (iv_nLe c42) (iv_all w41) (iv_all w40) (by decide)
      have k59b : iv (-2147483647) 2147483647 w40 := iv_ltr (iv_nLe c42) (iv_all w41) (iv_all w40) (by decide)
      refine lv_iconst (v := 2) hx hb dX1_causeOf_37 (by decide) ?_
      exact hret _ z0 H locs _ _ ⟨hJ, (iv_w (iv_lit (n := 2) 2 (by decide)) (by decide) (by decide))⟩ hH dX1_causeOf_38
  · skip
    have k60a : iv 0 0 (z0.2.1 14 (p0 : Int32).toNatClampNeg) := iv_eql (iv_Eq c37) i36 (iv_lit (n := 0) 0 (by decide)) (by decide) (by decide)
    refine lv_iconst (v := 1) hx hb dX1_causeOf_11 (by decide) ?_
    exact hret _ z0 H locs _ _ ⟨hJ, (iv_w (iv_lit (n := 1) 1 (by decide)) (by decide) (by decide))⟩ hH dX1_causeOf_12
set_option maxHeartbeats 4000000 in
set_option maxRecDepth 100000 in
theorem g_X1_firstClash_13 (l : Launch) (D : va_G) (cy : Nat → ClassId) (q : Nat → Nat) (hq : bJ 66 q) (z0 : zS) (hI : IvC z0)  : bCi l yX1_firstClash wsX1_firstClash ({ frames := 4, cells := 0, slots := 0, locals := 97 }) D cy 66 (enC cy) q z0 [.ref (q 13)] (fun v z => jJ IvC 0 0 0 z0 z ∧ iv (-1) 9 v) := by
  refine hM_i cX1_firstClash (by decide) rfl (own := RX1) rfl hq (Nat.le_of_ble_eq_true rfl) ?_
  intro p e s m args below meth c Q ls H locs hx hb hml hown hts hK hZ hH hl hret
  have hl : lv_has ls 2 [(0, .ref (q 13))] := hl
  have hJ : jJ IvC 0 0 0 z0 z0 := jJ_rf _ _ _ hI
  have HL2 : ∀ (n : Nat) (x1_2 : Int32) (H : Heap) (locs : List Loc) (ls : Array Slot), iv 0 10 x1_2 → bH D 66 (enC cy) q z0 s.heap H locs → lv_has ls 2 [(0, .ref (q 13)), (1, .int x1_2)] → (10 - x1_2.toInt).toNat = n → W p l e ({ frames := 4, cells := 0, slots := 0, locals := 97 }) s m args below meth c H locs 0 0 Q (F0 m 2 ls []) := by
    intro n2
    induction n2 using Nat.strongRecOn with
    | ind n2 ih2 =>
      intro x1_2 H locs ls h1_2 hH hl hn2
      refine lv_iload_n hx hb dX1_firstClash_2 rfl (lv_at hl 1 rfl) ?_
      refine lv_aload_n hx hb dX1_firstClash_3 rfl (lv_at hl 0 rfl) ?_
      refine b_get (ci := 1) (C := RX1) (T := TX1) (Nf := 2) (v := .ref (q 1)) hx hb hts in_X1_firstClash_X1 hown hK hH 13 (by decide) rfl rfl 0 (by decide) (hts (.fieldLink RX1 15 "StationLine$Putting" "bench" "LStationLine$Bench;") (List.mem_of_getElem? (i := 1) rfl)) rfl dX1_firstClash_4 ?_
      refine b_get (ci := 0) (C := RX0) (T := TX0) (Nf := 11) (v := .int (z0.1 0)) hx hb hts in_X1_firstClash_X0 hown hK hH 1 (by decide) rfl rfl 0 (by decide) (hts (.fieldLink RX1 25 "StationLine$Bench" "size" "I") (List.mem_of_getElem? (i := 2) rfl)) rfl dX1_firstClash_7 ?_
      have i64 := IvC_s0 hJ.1
      refine lv_icmp_ge (tgt := 29) hx hb dX1_firstClash_10 (by decide) (fun c65 => ?_) (fun c65 => ?_)
      · skip
        refine lv_iconst (v := (-1)) hx hb dX1_firstClash_29 (by decide) ?_
        exact hret _ z0 H locs _ _ ⟨hJ, (iv_w (iv_lit (n := (-1)) (-1) (by decide)) (by decide) (by decide))⟩ hH dX1_firstClash_30
      · skip
        have k67a : iv 0 9 x1_2 := iv_ltl (iv_nLe c65) h1_2 i64 (by decide)
        have k67b : iv 1 10 (z0.1 0) := iv_ltr (iv_nLe c65) h1_2 i64 (by decide)
        refine lv_aload_n hx hb dX1_firstClash_13 rfl (lv_at hl 0 rfl) ?_
        refine lv_iload_n hx hb dX1_firstClash_14 rfl (lv_at hl 1 rfl) ?_
        refine b_calli (As := [.int x1_2]) (rest := []) ⟨hx, hb, hml, hown, hts⟩ 13 1 (g_X1_causeOf_13 l D cy q hH.2.1 z0 hJ.1 x1_2 k67a) (cwV 1 hts gX1_firstClash_X1_causeOf rfl rfl rfl (by decide +kernel) ⟨Nat.le_of_ble_eq_true rfl, Nat.le_of_ble_eq_true rfl⟩) hK hZ hH (by decide) rfl rfl rfl hl.1 rfl (Nat.le_of_ble_eq_true rfl) ⟨Nat.zero_le _, Nat.zero_le _⟩ dX1_firstClash_15 (fun w68 z68 H locs hp hH => ?_)
        rw [Ag_0 hp.1.2] at hH
        have i68 := hp.2
        refine lv_if_eq (tgt := 23) hx hb dX1_firstClash_18 (by decide) (fun c69 => ?_) (fun c69 => ?_)
        · skip
          have k70a : iv 0 0 w68 := iv_eql (iv_Eq c69) i68 (iv_lit (n := 0) 0 (by decide)) (by decide) (by decide)
          have j71 : iv 1 10 (x1_2 + 1) := iv_add k67a (iv_lit (n := 1) 1 (by decide)) (by decide) (by decide) (by decide) (by decide)
          have e71 : (x1_2 + 1).toInt = x1_2.toInt + 1 := (iv_addE k67a (iv_lit (n := 1) 1 (by decide)) (by decide) (by decide)).trans rfl
          refine lv_iinc (v := (x1_2 + 1)) (lv' := [(1, .int (x1_2 + 1)), (0, .ref (q 13))]) hx hb dX1_firstClash_23 hl (k := 1) rfl rfl (by decide) rfl (fun ls hl => ?_)
          refine lv_goto (tgt := 2) hx hb dX1_firstClash_26 (by decide) ?_
          exact ih2 _ (ms_up e71 j71.2 hn2) (x1_2 + 1)  H locs ls (iv_w j71 (by decide) (by decide))  hH (lv_sub hl [1, 0] rfl) rfl
        · skip
          have k72a : iv 1 6 w68 := iv_neLo (iv_nEq c69) i68 (by decide) (by decide)
          refine lv_iload_n hx hb dX1_firstClash_21 rfl (lv_at hl 1 rfl) ?_
          exact hret _ z0 H locs _ _ ⟨hJ, (iv_w k67a (by decide) (by decide))⟩ hH dX1_firstClash_22
  refine lv_iconst (v := 0) hx hb dX1_firstClash_0 (by decide) ?_
  refine lv_istore_n (lv' := [(1, .int 0), (0, .ref (q 13))]) hx hb dX1_firstClash_1 rfl hl (by decide) rfl (fun ls hl => ?_)
  exact HL2 _ 0  H locs ls (iv_w (iv_lit (n := 0) 0 (by decide)) (by decide) (by decide))  hH (lv_sub hl [1, 0] rfl) rfl
set_option maxHeartbeats 4000000 in
set_option maxRecDepth 100000 in
theorem g_X1_setAt_55 (l : Launch) (D : va_G) (cy : Nat → ClassId) (q : Nat → Nat) (hq : bJ 66 q) (z0 : zS) (hI : IvC z0) (p0 : Int32) : bCi l yX1_setAt wsX1_setAt ({ frames := 0, cells := 0, slots := 0, locals := 0 }) D cy 66 (enC cy) q z0 [.ref (q 55), .int p0] (fun v z => jJ IvC 0 0 0 z0 z ∧ iv 0 1023 v) := by
  refine hM_i cX1_setAt (by decide) rfl (own := RX1) rfl hq (Nat.le_of_ble_eq_true rfl) ?_
  intro p e s m args below meth c Q ls H locs hx hb hml hown hts hK hZ hH hl hret
  have hl : lv_has ls 4 [(0, .ref (q 55)), (1, .int p0)] := hl
  have hJ : jJ IvC 0 0 0 z0 z0 := jJ_rf _ _ _ hI
  have HL4 : ∀ (n : Nat) (x2_4 : Int32) (x3_4 : Int32) (H : Heap) (locs : List Loc) (ls : Array Slot), iv 0 1023 x2_4 → iv 0 10 x3_4 → bH D 66 (enC cy) q z0 s.heap H locs → lv_has ls 4 [(0, .ref (q 55)), (1, .int p0), (2, .int x2_4), (3, .int x3_4)] → (10 - x3_4.toInt).toNat = n → W p l e ({ frames := 0, cells := 0, slots := 0, locals := 0 }) s m args below meth c H locs 0 0 Q (F0 m 4 ls []) := by
    intro n4
    induction n4 using Nat.strongRecOn with
    | ind n4 ih4 =>
      intro x2_4 x3_4 H locs ls h2_4 h3_4 hH hl hn4
      have HJ31 : ∀ (x2_31 : Int32) (H : Heap) (locs : List Loc) (ls : Array Slot), iv 0 1023 x2_31 → iv 0 9 x3_4 → iv 1 10 (z0.1 0) → bH D 66 (enC cy) q z0 s.heap H locs → lv_has ls 4 [(0, .ref (q 55)), (1, .int p0), (2, .int x2_31), (3, .int x3_4)] → W p l e ({ frames := 0, cells := 0, slots := 0, locals := 0 }) s m args below meth c H locs 0 0 Q (F0 m 31 ls []) := by
        intro x2_31 H locs ls h2_31 h3_31 gh0_31 hH hl
        have j78 : iv 1 10 (x3_4 + 1) := iv_add h3_31 (iv_lit (n := 1) 1 (by decide)) (by decide) (by decide) (by decide) (by decide)
        have e78 : (x3_4 + 1).toInt = x3_4.toInt + 1 := (iv_addE h3_31 (iv_lit (n := 1) 1 (by decide)) (by decide) (by decide)).trans rfl
        refine lv_iinc (v := (x3_4 + 1)) (lv' := [(3, .int (x3_4 + 1)), (0, .ref (q 55)), (1, .int p0), (2, .int x2_31)]) hx hb dX1_setAt_31 hl (k := 3) rfl rfl (by decide) rfl (fun ls hl => ?_)
        refine lv_goto (tgt := 4) hx hb dX1_setAt_34 (by decide) ?_
        exact ih4 _ (ms_up e78 j78.2 hn4) x2_31 (x3_4 + 1)  H locs ls h2_31 (iv_w j78 (by decide) (by decide))  hH (lv_sub hl [1, 2, 3, 0] rfl) rfl
      refine lv_iload_n hx hb dX1_setAt_4 rfl (lv_at hl 3 rfl) ?_
      refine lv_aload_n hx hb dX1_setAt_5 rfl (lv_at hl 0 rfl) ?_
      refine b_get (ci := 1) (C := RX1) (T := TX1) (Nf := 2) (v := .ref (q 1)) hx hb hts in_X1_setAt_X1 hown hK hH 55 (by decide) rfl rfl 0 (by decide) (hts (.fieldLink RX1 15 "StationLine$Putting" "bench" "LStationLine$Bench;") (List.mem_of_getElem? (i := 1) rfl)) rfl dX1_setAt_6 ?_
      refine b_get (ci := 0) (C := RX0) (T := TX0) (Nf := 11) (v := .int (z0.1 0)) hx hb hts in_X1_setAt_X0 hown hK hH 1 (by decide) rfl rfl 0 (by decide) (hts (.fieldLink RX1 25 "StationLine$Bench" "size" "I") (List.mem_of_getElem? (i := 2) rfl)) rfl dX1_setAt_9 ?_
      have i79 := IvC_s0 hJ.1
      refine lv_icmp_ge (tgt := 37) hx hb dX1_setAt_12 (by decide) (fun c80 => ?_) (fun c80 => ?_)
      · skip
        refine lv_iload_n hx hb dX1_setAt_37 rfl (lv_at hl 2 rfl) ?_
        exact hret _ z0 H locs _ _ ⟨hJ, h2_4⟩ hH dX1_setAt_38
      · skip
        have k82a : iv 0 9 x3_4 := iv_ltl (iv_nLe c80) h3_4 i79 (by decide)
        have k82b : iv 1 10 (z0.1 0) := iv_ltr (iv_nLe c80) h3_4 i79 (by decide)
        refine lv_aload_n hx hb dX1_setAt_15 rfl (lv_at hl 0 rfl) ?_
        refine b_get (ci := 1) (C := RX1) (T := TX1) (Nf := 2) (v := .ref (q 56)) hx hb hts in_X1_setAt_X1 hown hK hH 55 (by decide) rfl rfl 1 (by decide) (hts (.fieldLink RX1 9 "StationLine$Putting" "row" "[I") (List.mem_of_getElem? (i := 3) rfl)) rfl dX1_setAt_16 ?_
        refine lv_iload_n hx hb dX1_setAt_19 rfl (lv_at hl 3 rfl) ?_
        refine b_iald (v := z0.2.1 56 (x3_4 : Int32).toNatClampNeg) hx hb hK hH 56 (by decide) rfl (iv_in k82a (by decide) (by decide)) rfl dX1_setAt_20 ?_
        have i83 : iv 0 10 (z0.2.1 56 (x3_4 : Int32).toNatClampNeg) := IvC_a56 hJ.1 _ (b_inlt (iv_in k82a (by decide) (by decide)))
        refine lv_iload_n hx hb dX1_setAt_21 rfl (lv_at hl 1 rfl) ?_
        refine lv_icmp_ne (tgt := 31) hx hb dX1_setAt_22 (by decide) (fun c84 => ?_) (fun c84 => ?_)
        · skip
          exact HJ31 x2_4  H locs ls h2_4 k82a k82b  hH (lv_sub hl [0, 1, 2, 3] rfl)
        · skip
          have k86b : iv 0 10 p0 := iv_eql ((iv_Eq c84)).symm (iv_all p0) i83 (by decide) (by decide)
          refine lv_iload_n hx hb dX1_setAt_25 rfl (lv_at hl 2 rfl) ?_
          refine lv_iconst (v := 1) hx hb dX1_setAt_26 (by decide) ?_
          refine lv_iload_n hx hb dX1_setAt_27 rfl (lv_at hl 3 rfl) ?_
          refine lv_ishl hx hb dX1_setAt_28 ?_
          refine h_i (a := 1) (b := 512) (iv_bit k82a (by decide) (by decide)) (fun w87 i87 => ?_)
          refine lv_ior hx hb dX1_setAt_29 ?_
          refine h_i (a := 0) (b := 1023) (iv_or 10 (b := 1023) (d := 512) (iv_w h2_4 (by decide) (by decide)) (iv_w i87 (by decide) (by decide)) (by decide) (by decide) (by decide) (by decide)) (fun w88 i88 => ?_)
          refine lv_istore_n (lv' := [(2, .int w88), (0, .ref (q 55)), (1, .int p0), (3, .int x3_4)]) hx hb dX1_setAt_30 rfl hl (by decide) rfl (fun ls hl => ?_)
          exact HJ31 w88  H locs ls i88 k82a k82b  hH (lv_sub hl [1, 2, 0, 3] rfl)
  refine lv_iconst (v := 0) hx hb dX1_setAt_0 (by decide) ?_
  refine lv_istore_n (lv' := [(2, .int 0), (0, .ref (q 55)), (1, .int p0)]) hx hb dX1_setAt_1 rfl hl (by decide) rfl (fun ls hl => ?_)
  refine lv_iconst (v := 0) hx hb dX1_setAt_2 (by decide) ?_
  refine lv_istore_n (lv' := [(3, .int 0), (2, .int 0), (0, .ref (q 55)), (1, .int p0)]) hx hb dX1_setAt_3 rfl hl (by decide) rfl (fun ls hl => ?_)
  exact HL4 _ 0 0  H locs ls (iv_w (iv_lit (n := 0) 0 (by decide)) (by decide) (by decide)) (iv_w (iv_lit (n := 0) 0 (by decide)) (by decide) (by decide))  hH (lv_sub hl [2, 3, 1, 0] rfl) rfl
set_option maxHeartbeats 4000000 in
set_option maxRecDepth 100000 in
theorem g_X1_setUpTo_55 (l : Launch) (D : va_G) (cy : Nat → ClassId) (q : Nat → Nat) (hq : bJ 66 q) (z0 : zS) (hI : IvC z0) (p0 : Int32) : bCi l yX1_setUpTo wsX1_setUpTo ({ frames := 0, cells := 0, slots := 0, locals := 0 }) D cy 66 (enC cy) q z0 [.ref (q 55), .int p0] (fun v z => jJ IvC 0 0 0 z0 z ∧ iv 0 1023 v) := by
  refine hM_i cX1_setUpTo (by decide) rfl (own := RX1) rfl hq (Nat.le_of_ble_eq_true rfl) ?_
  intro p e s m args below meth c Q ls H locs hx hb hml hown hts hK hZ hH hl hret
  have hl : lv_has ls 4 [(0, .ref (q 55)), (1, .int p0)] := hl
  have hJ : jJ IvC 0 0 0 z0 z0 := jJ_rf _ _ _ hI
  have HL4 : ∀ (n : Nat) (x2_4 : Int32) (x3_4 : Int32) (H : Heap) (locs : List Loc) (ls : Array Slot), iv 0 1023 x2_4 → iv 0 10 x3_4 → bH D 66 (enC cy) q z0 s.heap H locs → lv_has ls 4 [(0, .ref (q 55)), (1, .int p0), (2, .int x2_4), (3, .int x3_4)] → (10 - x3_4.toInt).toNat = n → W p l e ({ frames := 0, cells := 0, slots := 0, locals := 0 }) s m args below meth c H locs 0 0 Q (F0 m 4 ls []) := by
    intro n4
    induction n4 using Nat.strongRecOn with
    | ind n4 ih4 =>
      intro x2_4 x3_4 H locs ls h2_4 h3_4 hH hl hn4
      have HJ40 : ∀ (x2_40 : Int32) (H : Heap) (locs : List Loc) (ls : Array Slot), iv 0 1023 x2_40 → iv 0 9 x3_4 → iv 1 10 (z0.1 0) → bH D 66 (enC cy) q z0 s.heap H locs → lv_has ls 4 [(0, .ref (q 55)), (1, .int p0), (2, .int x2_40), (3, .int x3_4)] → W p l e ({ frames := 0, cells := 0, slots := 0, locals := 0 }) s m args below meth c H locs 0 0 Q (F0 m 40 ls []) := by
        intro x2_40 H locs ls h2_40 h3_40 gh0_40 hH hl
        have j106 : iv 1 10 (x3_4 + 1) := iv_add h3_40 (iv_lit (n := 1) 1 (by decide)) (by decide) (by decide) (by decide) (by decide)
        have e106 : (x3_4 + 1).toInt = x3_4.toInt + 1 := (iv_addE h3_40 (iv_lit (n := 1) 1 (by decide)) (by decide) (by decide)).trans rfl
        refine lv_iinc (v := (x3_4 + 1)) (lv' := [(3, .int (x3_4 + 1)), (0, .ref (q 55)), (1, .int p0), (2, .int x2_40)]) hx hb dX1_setUpTo_40 hl (k := 3) rfl rfl (by decide) rfl (fun ls hl => ?_)
        refine lv_goto (tgt := 4) hx hb dX1_setUpTo_43 (by decide) ?_
        exact ih4 _ (ms_up e106 j106.2 hn4) x2_40 (x3_4 + 1)  H locs ls h2_40 (iv_w j106 (by decide) (by decide))  hH (lv_sub hl [1, 2, 3, 0] rfl) rfl
      refine lv_iload_n hx hb dX1_setUpTo_4 rfl (lv_at hl 3 rfl) ?_
      refine lv_aload_n hx hb dX1_setUpTo_5 rfl (lv_at hl 0 rfl) ?_
      refine b_get (ci := 1) (C := RX1) (T := TX1) (Nf := 2) (v := .ref (q 1)) hx hb hts in_X1_setUpTo_X1 hown hK hH 55 (by decide) rfl rfl 0 (by decide) (hts (.fieldLink RX1 15 "StationLine$Putting" "bench" "LStationLine$Bench;") (List.mem_of_getElem? (i := 1) rfl)) rfl dX1_setUpTo_6 ?_
      refine b_get (ci := 0) (C := RX0) (T := TX0) (Nf := 11) (v := .int (z0.1 0)) hx hb hts in_X1_setUpTo_X0 hown hK hH 1 (by decide) rfl rfl 0 (by decide) (hts (.fieldLink RX1 25 "StationLine$Bench" "size" "I") (List.mem_of_getElem? (i := 2) rfl)) rfl dX1_setUpTo_9 ?_
      have i107 := IvC_s0 hJ.1
      refine lv_icmp_ge (tgt := 46) hx hb dX1_setUpTo_12 (by decide) (fun c108 => ?_) (fun c108 => ?_)
      · skip
        refine lv_iload_n hx hb dX1_setUpTo_46 rfl (lv_at hl 2 rfl) ?_
        exact hret _ z0 H locs _ _ ⟨hJ, h2_4⟩ hH dX1_setUpTo_47
      · skip
        have k110a : iv 0 9 x3_4 := iv_ltl (iv_nLe c108) h3_4 i107 (by decide)
        have k110b : iv 1 10 (z0.1 0) := iv_ltr (iv_nLe c108) h3_4 i107 (by decide)
        refine lv_aload_n hx hb dX1_setUpTo_15 rfl (lv_at hl 0 rfl) ?_
        refine b_get (ci := 1) (C := RX1) (T := TX1) (Nf := 2) (v := .ref (q 56)) hx hb hts in_X1_setUpTo_X1 hown hK hH 55 (by decide) rfl rfl 1 (by decide) (hts (.fieldLink RX1 9 "StationLine$Putting" "row" "[I") (List.mem_of_getElem? (i := 3) rfl)) rfl dX1_setUpTo_16 ?_
        refine lv_iload_n hx hb dX1_setUpTo_19 rfl (lv_at hl 3 rfl) ?_
        refine b_iald (v := z0.2.1 56 (x3_4 : Int32).toNatClampNeg) hx hb hK hH 56 (by decide) rfl (iv_in k110a (by decide) (by decide)) rfl dX1_setUpTo_20 ?_
        have i111 : iv 0 10 (z0.2.1 56 (x3_4 : Int32).toNatClampNeg) := IvC_a56 hJ.1 _ (b_inlt (iv_in k110a (by decide) (by decide)))
        refine lv_if_le (tgt := 40) hx hb dX1_setUpTo_21 (by decide) (fun c112 => ?_) (fun c112 => ?_)
        · skip
          have k113a : iv 0 0 (z0.2.1 56 (x3_4 : Int32).toNatClampNeg) := iv_lel (iv_Le c112) i111 (iv_lit (n := 0) 0 (by decide))
          exact HJ40 x2_4  H locs ls h2_4 k110a k110b  hH (lv_sub hl [0, 1, 2, 3] rfl)
        · skip
          have k114b : iv 1 10 (z0.2.1 56 (x3_4 : Int32).toNatClampNeg) := iv_ltr (iv_nLe c112) (iv_lit (n := 0) 0 (by decide)) i111 (by decide)
          refine lv_aload_n hx hb dX1_setUpTo_24 rfl (lv_at hl 0 rfl) ?_
          refine b_get (ci := 1) (C := RX1) (T := TX1) (Nf := 2) (v := .ref (q 56)) hx hb hts in_X1_setUpTo_X1 hown hK hH 55 (by decide) rfl rfl 1 (by decide) (hts (.fieldLink RX1 9 "StationLine$Putting" "row" "[I") (List.mem_of_getElem? (i := 3) rfl)) rfl dX1_setUpTo_25 ?_
          refine lv_iload_n hx hb dX1_setUpTo_28 rfl (lv_at hl 3 rfl) ?_
          refine b_iald (v := z0.2.1 56 (x3_4 : Int32).toNatClampNeg) hx hb hK hH 56 (by decide) rfl (iv_in k110a (by decide) (by decide)) rfl dX1_setUpTo_29 ?_
          have i115 : iv 0 10 (z0.2.1 56 (x3_4 : Int32).toNatClampNeg) := IvC_a56 hJ.1 _ (b_inlt (iv_in k110a (by decide) (by decide)))
          refine lv_iload_n hx hb dX1_setUpTo_30 rfl (lv_at hl 1 rfl) ?_
          refine lv_icmp_gt (tgt := 40) hx hb dX1_setUpTo_31 (by decide) (fun c116 => ?_) (fun c116 => ?_)
          · skip
            have k117a : iv (-2147483648) 9 p0 := iv_ltl (iv_Lt c116) (iv_all p0) i115 (by decide)
            exact HJ40 x2_4  H locs ls h2_4 k110a k110b  hH (lv_sub hl [0, 1, 2, 3] rfl)
          · skip
            have k118b : iv 0 2147483647 p0 := iv_ler (iv_nLt c116) i115 (iv_all p0)
            refine lv_iload_n hx hb dX1_setUpTo_34 rfl (lv_at hl 2 rfl) ?_
            refine lv_iconst (v := 1) hx hb dX1_setUpTo_35 (by decide) ?_
            refine lv_iload_n hx hb dX1_setUpTo_36 rfl (lv_at hl 3 rfl) ?_
            refine lv_ishl hx hb dX1_setUpTo_37 ?_
            refine h_i (a := 1) (b := 512) (iv_bit k110a (by decide) (by decide)) (fun w119 i119 => ?_)
            refine lv_ior hx hb dX1_setUpTo_38 ?_
            refine h_i (a := 0) (b := 1023) (iv_or 10 (b := 1023) (d := 512) (iv_w h2_4 (by decide) (by decide)) (iv_w i119 (by decide) (by decide)) (by decide) (by decide) (by decide) (by decide)) (fun w120 i120 => ?_)
            refine lv_istore_n (lv' := [(2, .int w120), (0, .ref (q 55)), (1, .int p0), (3, .int x3_4)]) hx hb dX1_setUpTo_39 rfl hl (by decide) rfl (fun ls hl => ?_)
            exact HJ40 w120  H locs ls i120 k110a k110b  hH (lv_sub hl [1, 2, 0, 3] rfl)
  refine lv_iconst (v := 0) hx hb dX1_setUpTo_0 (by decide) ?_
  refine lv_istore_n (lv' := [(2, .int 0), (0, .ref (q 55)), (1, .int p0)]) hx hb dX1_setUpTo_1 rfl hl (by decide) rfl (fun ls hl => ?_)
  refine lv_iconst (v := 0) hx hb dX1_setUpTo_2 (by decide) ?_
  refine lv_istore_n (lv' := [(3, .int 0), (2, .int 0), (0, .ref (q 55)), (1, .int p0)]) hx hb dX1_setUpTo_3 rfl hl (by decide) rfl (fun ls hl => ?_)
  exact HL4 _ 0 0  H locs ls (iv_w (iv_lit (n := 0) 0 (by decide)) (by decide) (by decide)) (iv_w (iv_lit (n := 0) 0 (by decide)) (by decide) (by decide))  hH (lv_sub hl [2, 3, 1, 0] rfl) rfl
set_option maxHeartbeats 4000000 in
set_option maxRecDepth 100000 in
theorem g_X1_greatest_55 (l : Launch) (D : va_G) (cy : Nat → ClassId) (q : Nat → Nat) (hq : bJ 66 q) (z0 : zS) (hI : IvC z0)  : bCi l yX1_greatest wsX1_greatest ({ frames := 1, cells := 0, slots := 0, locals := 28 }) D cy 66 (enC cy) q z0 [.ref (q 55)] (fun v z => jJ IvC 0 0 0 z0 z ∧ iv 0 10 v) := by
  refine hM_i cX1_greatest (by decide) rfl (own := RX1) rfl hq (Nat.le_of_ble_eq_true rfl) ?_
  intro p e s m args below meth c Q ls H locs hx hb hml hown hts hK hZ hH hl hret
  have hl : lv_has ls 3 [(0, .ref (q 55))] := hl
  have hJ : jJ IvC 0 0 0 z0 z0 := jJ_rf _ _ _ hI
  have HL4 : ∀ (n : Nat) (x1_4 : Int32) (x2_4 : Int32) (H : Heap) (locs : List Loc) (ls : Array Slot), iv 0 10 x1_4 → iv 0 10 x2_4 → bH D 66 (enC cy) q z0 s.heap H locs → lv_has ls 3 [(0, .ref (q 55)), (1, .int x1_4), (2, .int x2_4)] → (10 - x2_4.toInt).toNat = n → W p l e ({ frames := 1, cells := 0, slots := 0, locals := 28 }) s m args below meth c H locs 0 0 Q (F0 m 4 ls []) := by
    intro n4
    induction n4 using Nat.strongRecOn with
    | ind n4 ih4 =>
      intro x1_4 x2_4 H locs ls h1_4 h2_4 hH hl hn4
      refine lv_iload_n hx hb dX1_greatest_4 rfl (lv_at hl 2 rfl) ?_
      refine lv_aload_n hx hb dX1_greatest_5 rfl (lv_at hl 0 rfl) ?_
      refine b_get (ci := 1) (C := RX1) (T := TX1) (Nf := 2) (v := .ref (q 1)) hx hb hts in_X1_greatest_X1 hown hK hH 55 (by decide) rfl rfl 0 (by decide) (hts (.fieldLink RX1 15 "StationLine$Putting" "bench" "LStationLine$Bench;") (List.mem_of_getElem? (i := 1) rfl)) rfl dX1_greatest_6 ?_
      refine b_get (ci := 0) (C := RX0) (T := TX0) (Nf := 11) (v := .int (z0.1 0)) hx hb hts in_X1_greatest_X0 hown hK hH 1 (by decide) rfl rfl 0 (by decide) (hts (.fieldLink RX1 25 "StationLine$Bench" "size" "I") (List.mem_of_getElem? (i := 2) rfl)) rfl dX1_greatest_9 ?_
      have i50 := IvC_s0 hJ.1
      refine lv_icmp_ge (tgt := 32) hx hb dX1_greatest_12 (by decide) (fun c51 => ?_) (fun c51 => ?_)
      · skip
        refine lv_iload_n hx hb dX1_greatest_32 rfl (lv_at hl 1 rfl) ?_
        exact hret _ z0 H locs _ _ ⟨hJ, h1_4⟩ hH dX1_greatest_33
      · skip
        have k53a : iv 0 9 x2_4 := iv_ltl (iv_nLe c51) h2_4 i50 (by decide)
        have k53b : iv 1 10 (z0.1 0) := iv_ltr (iv_nLe c51) h2_4 i50 (by decide)
        refine lv_iload_n hx hb dX1_greatest_15 rfl (lv_at hl 1 rfl) ?_
        refine lv_aload_n hx hb dX1_greatest_16 rfl (lv_at hl 0 rfl) ?_
        refine b_get (ci := 1) (C := RX1) (T := TX1) (Nf := 2) (v := .ref (q 56)) hx hb hts in_X1_greatest_X1 hown hK hH 55 (by decide) rfl rfl 1 (by decide) (hts (.fieldLink RX1 9 "StationLine$Putting" "row" "[I") (List.mem_of_getElem? (i := 3) rfl)) rfl dX1_greatest_17 ?_
        refine lv_iload_n hx hb dX1_greatest_20 rfl (lv_at hl 2 rfl) ?_
        refine b_iald (v := z0.2.1 56 (x2_4 : Int32).toNatClampNeg) hx hb hK hH 56 (by decide) rfl (iv_in k53a (by decide) (by decide)) rfl dX1_greatest_21 ?_
        have i54 : iv 0 10 (z0.2.1 56 (x2_4 : Int32).toNatClampNeg) := IvC_a56 hJ.1 _ (b_inlt (iv_in k53a (by decide) (by decide)))
        refine va_mmax hx hb (by rw [hml]; exact hl.1.symm) hown (hts (.methodLink RX1 31 Lib.Math.max.name) (List.mem_of_getElem? (i := 4) rfl)) (hts (.static Lib.Math.max.name) (List.mem_of_getElem? (i := 5) rfl)) (hts (.initialized "java/lang/Math") (List.mem_of_getElem? (i := 6) rfl)) (hts (.code Lib.Math.max.name Lib.Math.max.code 2 (some .int)) (List.mem_of_getElem? (i := 7) rfl)) (Nat.le_of_ble_eq_true rfl) (Nat.le_of_ble_eq_true rfl) (Nat.zero_le _) (Nat.zero_le _) dX1_greatest_22 ?_
        refine h_i (a := 0) (b := 10) (iv_max h1_4 i54 (by decide) (by decide) (by decide)) (fun w55 i55 => ?_)
        refine lv_istore_n (lv' := [(1, .int w55), (0, .ref (q 55)), (2, .int x2_4)]) hx hb dX1_greatest_25 rfl hl (by decide) rfl (fun ls hl => ?_)
        have j56 : iv 1 10 (x2_4 + 1) := iv_add k53a (iv_lit (n := 1) 1 (by decide)) (by decide) (by decide) (by decide) (by decide)
        have e56 : (x2_4 + 1).toInt = x2_4.toInt + 1 := (iv_addE k53a (iv_lit (n := 1) 1 (by decide)) (by decide) (by decide)).trans rfl
        refine lv_iinc (v := (x2_4 + 1)) (lv' := [(2, .int (x2_4 + 1)), (1, .int w55), (0, .ref (q 55))]) hx hb dX1_greatest_26 hl (k := 2) rfl rfl (by decide) rfl (fun ls hl => ?_)
        refine lv_goto (tgt := 4) hx hb dX1_greatest_29 (by decide) ?_
        exact ih4 _ (ms_up e56 j56.2 hn4) w55 (x2_4 + 1)  H locs ls i55 (iv_w j56 (by decide) (by decide))  hH (lv_sub hl [2, 1, 0] rfl) rfl
  refine lv_iconst (v := 0) hx hb dX1_greatest_0 (by decide) ?_
  refine lv_istore_n (lv' := [(1, .int 0), (0, .ref (q 55))]) hx hb dX1_greatest_1 rfl hl (by decide) rfl (fun ls hl => ?_)
  refine lv_iconst (v := 0) hx hb dX1_greatest_2 (by decide) ?_
  refine lv_istore_n (lv' := [(2, .int 0), (1, .int 0), (0, .ref (q 55))]) hx hb dX1_greatest_3 rfl hl (by decide) rfl (fun ls hl => ?_)
  exact HL4 _ 0 0  H locs ls (iv_w (iv_lit (n := 0) 0 (by decide)) (by decide) (by decide)) (iv_w (iv_lit (n := 0) 0 (by decide)) (by decide) (by decide))  hH (lv_sub hl [2, 1, 0] rfl) rfl
set_option maxHeartbeats 4000000 in
set_option maxRecDepth 100000 in
theorem g_X1_causeOf_55 (l : Launch) (D : va_G) (cy : Nat → ClassId) (q : Nat → Nat) (hq : bJ 66 q) (z0 : zS) (hI : IvC z0) (p0 : Int32) (hp0 : iv 0 9 p0) : bCi l yX1_causeOf wsX1_causeOf ({ frames := 3, cells := 0, slots := 0, locals := 74 }) D cy 66 (enC cy) q z0 [.ref (q 55), .int p0] (fun v z => jJ IvC 0 0 0 z0 z ∧ iv 0 6 v) := by
  refine hM_i cX1_causeOf (by decide) rfl (own := RX1) rfl hq (Nat.le_of_ble_eq_true rfl) ?_
  intro p e s m args below meth c Q ls H locs hx hb hml hown hts hK hZ hH hl hret
  have hl : lv_has ls 4 [(0, .ref (q 55)), (1, .int p0)] := hl
  have hJ : jJ IvC 0 0 0 z0 z0 := jJ_rf _ _ _ hI
  have HJ100 : ∀ (x2_100 : Int32) (H : Heap) (locs : List Loc) (ls : Array Slot), iv 1 10 x2_100 → bH D 66 (enC cy) q z0 s.heap H locs → lv_has ls 4 [(0, .ref (q 55)), (1, .int p0), (2, .int x2_100)] → W p l e ({ frames := 3, cells := 0, slots := 0, locals := 74 }) s m args below meth c H locs 0 0 Q (F0 m 100 ls []) := by
    intro x2_100 H locs ls h2_100 hH hl
    refine lv_aload_n hx hb dX1_causeOf_100 rfl (lv_at hl 0 rfl) ?_
    refine b_get (ci := 1) (C := RX1) (T := TX1) (Nf := 2) (v := .ref (q 1)) hx hb hts in_X1_causeOf_X1 hown hK hH 55 (by decide) rfl rfl 0 (by decide) (hts (.fieldLink RX1 15 "StationLine$Putting" "bench" "LStationLine$Bench;") (List.mem_of_getElem? (i := 2) rfl)) rfl dX1_causeOf_101 ?_
    refine lv_iload_n hx hb dX1_causeOf_104 rfl (lv_at hl 1 rfl) ?_
    refine lv_aload_n hx hb dX1_causeOf_105 rfl (lv_at hl 0 rfl) ?_
    refine lv_iload_n hx hb dX1_causeOf_106 rfl (lv_at hl 2 rfl) ?_
    refine b_calli (As := [.int x2_100]) (rest := [.int p0, .ref (q 1)]) ⟨hx, hb, hml, hown, hts⟩ 55 1 (g_X1_setUpTo_55 l D cy q hH.2.1 z0 hJ.1 x2_100) (cwV 1 hts gX1_causeOf_X1_setUpTo rfl rfl rfl (by decide +kernel) ⟨Nat.le_of_ble_eq_true rfl, Nat.le_of_ble_eq_true rfl⟩) hK hZ hH (by decide) rfl rfl rfl hl.1 rfl (Nat.le_of_ble_eq_true rfl) ⟨Nat.zero_le _, Nat.zero_le _⟩ dX1_causeOf_107 (fun w31 z31 H locs hp hH => ?_)
    rw [Ag_0 hp.1.2] at hH
    have i31 := hp.2
    refine b_calli (As := [.int p0, .int w31]) (rest := []) ⟨hx, hb, hml, hown, hts⟩ 1 0 (g_X0_isOpen_1 l D cy q hH.2.1 z0 hJ.1 p0 hp0 w31) (cwV 2 hts gX1_causeOf_X0_isOpen rfl rfl rfl (by decide +kernel) ⟨Nat.le_of_ble_eq_true rfl, Nat.le_of_ble_eq_true rfl⟩) hK hZ hH (by decide) rfl rfl rfl hl.1 rfl (Nat.le_of_ble_eq_true rfl) ⟨Nat.zero_le _, Nat.zero_le _⟩ dX1_causeOf_110 (fun w32 z32 H locs hp hH => ?_)
    rw [Ag_0 hp.1.2] at hH
    have i32 := hp.2
    refine lv_if_eq (tgt := 120) hx hb dX1_causeOf_113 (by decide) (fun c33 => ?_) (fun c33 => ?_)
    · skip
      have k34a : iv 0 0 w32 := iv_eql (iv_Eq c33) i32 (iv_lit (n := 0) 0 (by decide)) (by decide) (by decide)
      refine lv_bipush (v := 6) hx hb dX1_causeOf_120 (by decide) ?_
      exact hret _ z0 H locs _ _ ⟨hJ, (iv_w (iv_lit (n := 6) 6 (by decide)) (by decide) (by decide))⟩ hH dX1_causeOf_122
    · skip
      have k35a : iv 1 1 w32 := iv_neLo (iv_nEq c33) i32 (by decide) (by decide)
      refine lv_iconst (v := 0) hx hb dX1_causeOf_116 (by decide) ?_
      refine lv_goto (tgt := 122) hx hb dX1_causeOf_117 (by decide) ?_
      exact hret _ z0 H locs _ _ ⟨hJ, (iv_w (iv_lit (n := 0) 0 (by decide)) (by decide) (by decide))⟩ hH dX1_causeOf_122
  refine lv_aload_n hx hb dX1_causeOf_0 rfl (lv_at hl 0 rfl) ?_
  refine b_get (ci := 1) (C := RX1) (T := TX1) (Nf := 2) (v := .ref (q 56)) hx hb hts in_X1_causeOf_X1 hown hK hH 55 (by decide) rfl rfl 1 (by decide) (hts (.fieldLink RX1 9 "StationLine$Putting" "row" "[I") (List.mem_of_getElem? (i := 1) rfl)) rfl dX1_causeOf_1 ?_
  refine lv_iload_n hx hb dX1_causeOf_4 rfl (lv_at hl 1 rfl) ?_
  refine b_iald (v := z0.2.1 56 (p0 : Int32).toNatClampNeg) hx hb hK hH 56 (by decide) rfl (iv_in hp0 (by decide) (by decide)) rfl dX1_causeOf_5 ?_
  have i36 : iv 0 10 (z0.2.1 56 (p0 : Int32).toNatClampNeg) := IvC_a56 hJ.1 _ (b_inlt (iv_in hp0 (by decide) (by decide)))
  refine lv_istore_n (lv' := [(2, .int (z0.2.1 56 (p0 : Int32).toNatClampNeg)), (0, .ref (q 55)), (1, .int p0)]) hx hb dX1_causeOf_6 rfl hl (by decide) rfl (fun ls hl => ?_)
  refine lv_iload_n hx hb dX1_causeOf_7 rfl (lv_at hl 0 rfl) ?_
  refine lv_if_ne (tgt := 13) hx hb dX1_causeOf_8 (by decide) (fun c37 => ?_) (fun c37 => ?_)
  · skip
    have k38a : iv 1 10 (z0.2.1 56 (p0 : Int32).toNatClampNeg) := iv_neLo (iv_nEq c37) i36 (by decide) (by decide)
    refine lv_aload_n hx hb dX1_causeOf_13 rfl (lv_at hl 1 rfl) ?_
    refine lv_iload_n hx hb dX1_causeOf_14 rfl (lv_at hl 0 rfl) ?_
    refine b_calli (As := [.int (z0.2.1 56 (p0 : Int32).toNatClampNeg)]) (rest := []) ⟨hx, hb, hml, hown, hts⟩ 55 1 (g_X1_setAt_55 l D cy q hH.2.1 z0 hJ.1 (z0.2.1 56 (p0 : Int32).toNatClampNeg)) (cwV 1 hts gX1_causeOf_X1_setAt rfl rfl rfl (by decide +kernel) ⟨Nat.le_of_ble_eq_true rfl, Nat.le_of_ble_eq_true rfl⟩) hK hZ hH (by decide) rfl rfl rfl hl.1 rfl (Nat.le_of_ble_eq_true rfl) ⟨Nat.zero_le _, Nat.zero_le _⟩ dX1_causeOf_15 (fun w39 z39 H locs hp hH => ?_)
    rw [Ag_0 hp.1.2] at hH
    have i39 := hp.2
    refine lv_istore_n (lv' := [(3, .int w39), (2, .int (z0.2.1 56 (p0 : Int32).toNatClampNeg)), (0, .ref (q 55)), (1, .int p0)]) hx hb dX1_causeOf_18 rfl hl (by decide) rfl (fun ls hl => ?_)
    refine lv_aload_n hx hb dX1_causeOf_19 rfl (lv_at hl 2 rfl) ?_
    refine b_get (ci := 1) (C := RX1) (T := TX1) (Nf := 2) (v := .ref (q 1)) hx hb hts in_X1_causeOf_X1 hown hK hH 55 (by decide) rfl rfl 0 (by decide) (hts (.fieldLink RX1 15 "StationLine$Putting" "bench" "LStationLine$Bench;") (List.mem_of_getElem? (i := 2) rfl)) rfl dX1_causeOf_20 ?_
    refine lv_iload_n hx hb dX1_causeOf_23 rfl (lv_at hl 0 rfl) ?_
    refine b_calli (As := [.int w39]) (rest := []) ⟨hx, hb, hml, hown, hts⟩ 1 0 (g_X0_loadOf_1 l D cy q hH.2.1 z0 hJ.1 w39) (cwV 1 hts gX1_causeOf_X0_loadOf rfl rfl rfl (by decide +kernel) ⟨Nat.le_of_ble_eq_true rfl, Nat.le_of_ble_eq_true rfl⟩) hK hZ hH (by decide) rfl rfl rfl hl.1 rfl (Nat.le_of_ble_eq_true rfl) ⟨Nat.zero_le _, Nat.zero_le _⟩ dX1_causeOf_24 (fun w40 z40 H locs hp hH => ?_)
    rw [Ag_0 hp.1.2] at hH
    refine lv_aload_n hx hb dX1_causeOf_27 rfl (lv_at hl 2 rfl) ?_
    refine b_get (ci := 1) (C := RX1) (T := TX1) (Nf := 2) (v := .ref (q 1)) hx hb hts in_X1_causeOf_X1 hown hK hH 55 (by decide) rfl rfl 0 (by decide) (hts (.fieldLink RX1 15 "StationLine$Putting" "bench" "LStationLine$Bench;") (List.mem_of_getElem? (i := 2) rfl)) rfl dX1_causeOf_28 ?_
    refine b_calli (As := []) (rest := [.int w40]) ⟨hx, hb, hml, hown, hts⟩ 1 0 (g_X0_room_1 l D cy q hH.2.1 z0 hJ.1 ) (cwV 0 hts gX1_causeOf_X0_room rfl rfl rfl (by decide +kernel) ⟨Nat.le_of_ble_eq_true rfl, Nat.le_of_ble_eq_true rfl⟩) hK hZ hH (by decide) rfl rfl rfl hl.1 rfl (Nat.le_of_ble_eq_true rfl) ⟨Nat.zero_le _, Nat.zero_le _⟩ dX1_causeOf_31 (fun w41 z41 H locs hp hH => ?_)
    rw [Ag_0 hp.1.2] at hH
    refine lv_icmp_le (tgt := 39) hx hb dX1_causeOf_34 (by decide) (fun c42 => ?_) (fun c42 => ?_)
    · skip
      refine lv_aload_n hx hb dX1_causeOf_39 rfl (lv_at hl 2 rfl) ?_
      refine b_get (ci := 1) (C := RX1) (T := TX1) (Nf := 2) (v := .ref (q 1)) hx hb hts in_X1_causeOf_X1 hown hK hH 55 (by decide) rfl rfl 0 (by decide) (hts (.fieldLink RX1 15 "StationLine$Putting" "bench" "LStationLine$Bench;") (List.mem_of_getElem? (i := 2) rfl)) rfl dX1_causeOf_40 ?_
      refine b_get (ci := 0) (C := RX0) (T := TX0) (Nf := 11) (v := .ref (q 10)) hx hb hts in_X1_causeOf_X0 hown hK hH 1 (by decide) rfl rfl 8 (by decide) (hts (.fieldLink RX1 52 "StationLine$Bench" "together" "[I") (List.mem_of_getElem? (i := 3) rfl)) rfl dX1_causeOf_43 ?_
      refine lv_iload_n hx hb dX1_causeOf_46 rfl (lv_at hl 3 rfl) ?_
      refine b_iald (v := z0.2.1 10 (p0 : Int32).toNatClampNeg) hx hb hK hH 10 (by decide) rfl (iv_in hp0 (by decide) (by decide)) rfl dX1_causeOf_47 ?_
      refine lv_iload_n hx hb dX1_causeOf_48 rfl (lv_at hl 0 rfl) ?_
      refine lv_iconst (v := (-1)) hx hb dX1_causeOf_49 (by decide) ?_
      refine lv_ixor hx hb dX1_causeOf_50 ?_
      refine lv_topi (fun w44 _ => ?_)
      refine lv_iand hx hb dX1_causeOf_51 ?_
      refine lv_topi (fun w45 _ => ?_)
      refine lv_if_eq (tgt := 57) hx hb dX1_causeOf_52 (by decide) (fun c46 => ?_) (fun c46 => ?_)
      · skip
        have k47a : iv 0 0 w45 := iv_eql (iv_Eq c46) (iv_all w45) (iv_lit (n := 0) 0 (by decide)) (by decide) (by decide)
        refine lv_aload_n hx hb dX1_causeOf_57 rfl (lv_at hl 2 rfl) ?_
        refine b_get (ci := 1) (C := RX1) (T := TX1) (Nf := 2) (v := .ref (q 1)) hx hb hts in_X1_causeOf_X1 hown hK hH 55 (by decide) rfl rfl 0 (by decide) (hts (.fieldLink RX1 15 "StationLine$Putting" "bench" "LStationLine$Bench;") (List.mem_of_getElem? (i := 2) rfl)) rfl dX1_causeOf_58 ?_
        refine b_get (ci := 0) (C := RX0) (T := TX0) (Nf := 11) (v := .ref (q 11)) hx hb hts in_X1_causeOf_X0 hown hK hH 1 (by decide) rfl rfl 9 (by decide) (hts (.fieldLink RX1 55 "StationLine$Bench" "apart" "[I") (List.mem_of_getElem? (i := 4) rfl)) rfl dX1_causeOf_61 ?_
        refine lv_iload_n hx hb dX1_causeOf_64 rfl (lv_at hl 3 rfl) ?_
        refine b_iald (v := z0.2.1 11 (p0 : Int32).toNatClampNeg) hx hb hK hH 11 (by decide) rfl (iv_in hp0 (by decide) (by decide)) rfl dX1_causeOf_65 ?_
        refine lv_iload_n hx hb dX1_causeOf_66 rfl (lv_at hl 0 rfl) ?_
        refine lv_iand hx hb dX1_causeOf_67 ?_
        refine h_i (a := 0) (b := 1023) (iv_and2 (iv_all (z0.2.1 11 (p0 : Int32).toNatClampNeg)) i39 (by decide) (by decide)) (fun w48 i48 => ?_)
        refine lv_if_eq (tgt := 73) hx hb dX1_causeOf_68 (by decide) (fun c49 => ?_) (fun c49 => ?_)
        · skip
          have k50a : iv 0 0 w48 := iv_eql (iv_Eq c49) i48 (iv_lit (n := 0) 0 (by decide)) (by decide) (by decide)
          refine lv_aload_n hx hb dX1_causeOf_73 rfl (lv_at hl 2 rfl) ?_
          refine b_get (ci := 1) (C := RX1) (T := TX1) (Nf := 2) (v := .ref (q 1)) hx hb hts in_X1_causeOf_X1 hown hK hH 55 (by decide) rfl rfl 0 (by decide) (hts (.fieldLink RX1 15 "StationLine$Putting" "bench" "LStationLine$Bench;") (List.mem_of_getElem? (i := 2) rfl)) rfl dX1_causeOf_74 ?_
          refine b_get (ci := 0) (C := RX0) (T := TX0) (Nf := 11) (v := .ref (q 12)) hx hb hts in_X1_causeOf_X0 hown hK hH 1 (by decide) rfl rfl 10 (by decide) (hts (.fieldLink RX1 58 "StationLine$Bench" "held" "[I") (List.mem_of_getElem? (i := 5) rfl)) rfl dX1_causeOf_77 ?_
          refine lv_iload_n hx hb dX1_causeOf_80 rfl (lv_at hl 3 rfl) ?_
          refine b_iald (v := z0.2.1 12 (p0 : Int32).toNatClampNeg) hx hb hK hH 12 (by decide) rfl (iv_in hp0 (by decide) (by decide)) rfl dX1_causeOf_81 ?_
          refine lv_if_eq (tgt := 100) hx hb dX1_causeOf_82 (by decide) (fun c51 => ?_) (fun c51 => ?_)
          · skip
            have k52a : iv 0 0 (z0.2.1 12 (p0 : Int32).toNatClampNeg) := iv_eql (iv_Eq c51) (iv_all (z0.2.1 12 (p0 : Int32).toNatClampNeg)) (iv_lit (n := 0) 0 (by decide)) (by decide) (by decide)
            exact HJ100 (z0.2.1 56 (p0 : Int32).toNatClampNeg)  H locs ls k38a  hH (lv_sub hl [2, 3, 1] rfl)
          · skip
            refine lv_aload_n hx hb dX1_causeOf_85 rfl (lv_at hl 2 rfl) ?_
            refine b_get (ci := 1) (C := RX1) (T := TX1) (Nf := 2) (v := .ref (q 1)) hx hb hts in_X1_causeOf_X1 hown hK hH 55 (by decide) rfl rfl 0 (by decide) (hts (.fieldLink RX1 15 "StationLine$Putting" "bench" "LStationLine$Bench;") (List.mem_of_getElem? (i := 2) rfl)) rfl dX1_causeOf_86 ?_
            refine b_get (ci := 0) (C := RX0) (T := TX0) (Nf := 11) (v := .ref (q 12)) hx hb hts in_X1_causeOf_X0 hown hK hH 1 (by decide) rfl rfl 10 (by decide) (hts (.fieldLink RX1 58 "StationLine$Bench" "held" "[I") (List.mem_of_getElem? (i := 5) rfl)) rfl dX1_causeOf_89 ?_
            refine lv_iload_n hx hb dX1_causeOf_92 rfl (lv_at hl 3 rfl) ?_
            refine b_iald (v := z0.2.1 12 (p0 : Int32).toNatClampNeg) hx hb hK hH 12 (by decide) rfl (iv_in hp0 (by decide) (by decide)) rfl dX1_causeOf_93 ?_
            refine lv_iload_n hx hb dX1_causeOf_94 rfl (lv_at hl 1 rfl) ?_
            refine lv_icmp_eq (tgt := 100) hx hb dX1_causeOf_95 (by decide) (fun c54 => ?_) (fun c54 => ?_)
            · skip
              have k55a : iv 1 10 (z0.2.1 12 (p0 : Int32).toNatClampNeg) := iv_eql (iv_Eq c54) (iv_all (z0.2.1 12 (p0 : Int32).toNatClampNeg)) k38a (by decide) (by decide)
              exact HJ100 (z0.2.1 56 (p0 : Int32).toNatClampNeg)  H locs ls k38a  hH (lv_sub hl [2, 3, 1] rfl)
            · skip
              refine lv_iconst (v := 5) hx hb dX1_causeOf_98 (by decide) ?_
              exact hret _ z0 H locs _ _ ⟨hJ, (iv_w (iv_lit (n := 5) 5 (by decide)) (by decide) (by decide))⟩ hH dX1_causeOf_99
        · skip
          have k57a : iv 1 1023 w48 := iv_neLo (iv_nEq c49) i48 (by decide) (by decide)
          refine lv_iconst (v := 4) hx hb dX1_causeOf_71 (by decide) ?_
          exact hret _ z0 H locs _ _ ⟨hJ, (iv_w (iv_lit (n := 4) 4 (by decide)) (by decide) (by decide))⟩ hH dX1_causeOf_72
      · skip
        refine lv_iconst (v := 3) hx hb dX1_causeOf_55 (by decide) ?_
        exact hret _ z0 H locs _ _ ⟨hJ, (iv_w (iv_lit (n := 3) 3 (by decide)) (by decide) (by decide))⟩ hH dX1_causeOf_56
    · skip
      have k59a : iv (-2147483648) 2147483646 w41 := iv_ltl (iv_nLe c42) (iv_all w41) (iv_all w40) (by decide)
      have k59b : iv (-2147483647) 2147483647 w40 := iv_ltr (iv_nLe c42) (iv_all w41) (iv_all w40) (by decide)
      refine lv_iconst (v := 2) hx hb dX1_causeOf_37 (by decide) ?_
      exact hret _ z0 H locs _ _ ⟨hJ, (iv_w (iv_lit (n := 2) 2 (by decide)) (by decide) (by decide))⟩ hH dX1_causeOf_38
  · skip
    have k60a : iv 0 0 (z0.2.1 56 (p0 : Int32).toNatClampNeg) := iv_eql (iv_Eq c37) i36 (iv_lit (n := 0) 0 (by decide)) (by decide) (by decide)
    refine lv_iconst (v := 1) hx hb dX1_causeOf_11 (by decide) ?_
    exact hret _ z0 H locs _ _ ⟨hJ, (iv_w (iv_lit (n := 1) 1 (by decide)) (by decide) (by decide))⟩ hH dX1_causeOf_12
set_option maxHeartbeats 4000000 in
set_option maxRecDepth 100000 in
theorem g_X1_firstClash_55 (l : Launch) (D : va_G) (cy : Nat → ClassId) (q : Nat → Nat) (hq : bJ 66 q) (z0 : zS) (hI : IvC z0)  : bCi l yX1_firstClash wsX1_firstClash ({ frames := 4, cells := 0, slots := 0, locals := 97 }) D cy 66 (enC cy) q z0 [.ref (q 55)] (fun v z => jJ IvC 0 0 0 z0 z ∧ iv (-1) 9 v) := by
  refine hM_i cX1_firstClash (by decide) rfl (own := RX1) rfl hq (Nat.le_of_ble_eq_true rfl) ?_
  intro p e s m args below meth c Q ls H locs hx hb hml hown hts hK hZ hH hl hret
  have hl : lv_has ls 2 [(0, .ref (q 55))] := hl
  have hJ : jJ IvC 0 0 0 z0 z0 := jJ_rf _ _ _ hI
  have HL2 : ∀ (n : Nat) (x1_2 : Int32) (H : Heap) (locs : List Loc) (ls : Array Slot), iv 0 10 x1_2 → bH D 66 (enC cy) q z0 s.heap H locs → lv_has ls 2 [(0, .ref (q 55)), (1, .int x1_2)] → (10 - x1_2.toInt).toNat = n → W p l e ({ frames := 4, cells := 0, slots := 0, locals := 97 }) s m args below meth c H locs 0 0 Q (F0 m 2 ls []) := by
    intro n2
    induction n2 using Nat.strongRecOn with
    | ind n2 ih2 =>
      intro x1_2 H locs ls h1_2 hH hl hn2
      refine lv_iload_n hx hb dX1_firstClash_2 rfl (lv_at hl 1 rfl) ?_
      refine lv_aload_n hx hb dX1_firstClash_3 rfl (lv_at hl 0 rfl) ?_
      refine b_get (ci := 1) (C := RX1) (T := TX1) (Nf := 2) (v := .ref (q 1)) hx hb hts in_X1_firstClash_X1 hown hK hH 55 (by decide) rfl rfl 0 (by decide) (hts (.fieldLink RX1 15 "StationLine$Putting" "bench" "LStationLine$Bench;") (List.mem_of_getElem? (i := 1) rfl)) rfl dX1_firstClash_4 ?_
      refine b_get (ci := 0) (C := RX0) (T := TX0) (Nf := 11) (v := .int (z0.1 0)) hx hb hts in_X1_firstClash_X0 hown hK hH 1 (by decide) rfl rfl 0 (by decide) (hts (.fieldLink RX1 25 "StationLine$Bench" "size" "I") (List.mem_of_getElem? (i := 2) rfl)) rfl dX1_firstClash_7 ?_
      have i64 := IvC_s0 hJ.1
      refine lv_icmp_ge (tgt := 29) hx hb dX1_firstClash_10 (by decide) (fun c65 => ?_) (fun c65 => ?_)
      · skip
        refine lv_iconst (v := (-1)) hx hb dX1_firstClash_29 (by decide) ?_
        exact hret _ z0 H locs _ _ ⟨hJ, (iv_w (iv_lit (n := (-1)) (-1) (by decide)) (by decide) (by decide))⟩ hH dX1_firstClash_30
      · skip
        have k67a : iv 0 9 x1_2 := iv_ltl (iv_nLe c65) h1_2 i64 (by decide)
        have k67b : iv 1 10 (z0.1 0) := iv_ltr (iv_nLe c65) h1_2 i64 (by decide)
        refine lv_aload_n hx hb dX1_firstClash_13 rfl (lv_at hl 0 rfl) ?_
        refine lv_iload_n hx hb dX1_firstClash_14 rfl (lv_at hl 1 rfl) ?_
        refine b_calli (As := [.int x1_2]) (rest := []) ⟨hx, hb, hml, hown, hts⟩ 55 1 (g_X1_causeOf_55 l D cy q hH.2.1 z0 hJ.1 x1_2 k67a) (cwV 1 hts gX1_firstClash_X1_causeOf rfl rfl rfl (by decide +kernel) ⟨Nat.le_of_ble_eq_true rfl, Nat.le_of_ble_eq_true rfl⟩) hK hZ hH (by decide) rfl rfl rfl hl.1 rfl (Nat.le_of_ble_eq_true rfl) ⟨Nat.zero_le _, Nat.zero_le _⟩ dX1_firstClash_15 (fun w68 z68 H locs hp hH => ?_)
        rw [Ag_0 hp.1.2] at hH
        have i68 := hp.2
        refine lv_if_eq (tgt := 23) hx hb dX1_firstClash_18 (by decide) (fun c69 => ?_) (fun c69 => ?_)
        · skip
          have k70a : iv 0 0 w68 := iv_eql (iv_Eq c69) i68 (iv_lit (n := 0) 0 (by decide)) (by decide) (by decide)
          have j71 : iv 1 10 (x1_2 + 1) := iv_add k67a (iv_lit (n := 1) 1 (by decide)) (by decide) (by decide) (by decide) (by decide)
          have e71 : (x1_2 + 1).toInt = x1_2.toInt + 1 := (iv_addE k67a (iv_lit (n := 1) 1 (by decide)) (by decide) (by decide)).trans rfl
          refine lv_iinc (v := (x1_2 + 1)) (lv' := [(1, .int (x1_2 + 1)), (0, .ref (q 55))]) hx hb dX1_firstClash_23 hl (k := 1) rfl rfl (by decide) rfl (fun ls hl => ?_)
          refine lv_goto (tgt := 2) hx hb dX1_firstClash_26 (by decide) ?_
          exact ih2 _ (ms_up e71 j71.2 hn2) (x1_2 + 1)  H locs ls (iv_w j71 (by decide) (by decide))  hH (lv_sub hl [1, 0] rfl) rfl
        · skip
          have k72a : iv 1 6 w68 := iv_neLo (iv_nEq c69) i68 (by decide) (by decide)
          refine lv_iload_n hx hb dX1_firstClash_21 rfl (lv_at hl 1 rfl) ?_
          exact hret _ z0 H locs _ _ ⟨hJ, (iv_w k67a (by decide) (by decide))⟩ hH dX1_firstClash_22
  refine lv_iconst (v := 0) hx hb dX1_firstClash_0 (by decide) ?_
  refine lv_istore_n (lv' := [(1, .int 0), (0, .ref (q 55))]) hx hb dX1_firstClash_1 rfl hl (by decide) rfl (fun ls hl => ?_)
  exact HL2 _ 0  H locs ls (iv_w (iv_lit (n := 0) 0 (by decide)) (by decide) (by decide))  hH (lv_sub hl [1, 0] rfl) rfl
set_option maxHeartbeats 4000000 in
set_option maxRecDepth 100000 in
theorem g_X1_copyRow_27 (l : Launch) (D : va_G) (cy : Nat → ClassId) (q : Nat → Nat) (hq : bJ 66 q) (z0 : zS) (hI : IvC z0)  : bCv l yX1_copyRow wsX1_copyRow ({ frames := 1, cells := 0, slots := 0, locals := 40 }) D cy 66 (enC cy) q z0 [.ref (q 27), .ref (q 13)] (fun z => jJ IvC 0 268435456 0 z0 z) := by
  refine hM_v cX1_copyRow (by decide) rfl (own := RX1) rfl hq (Nat.le_of_ble_eq_true rfl) ?_
  intro p e s m args below meth c Q ls H locs hx hb hml hown hts hK hZ hH hl hret
  have hl : lv_has ls 2 [(0, .ref (q 27)), (1, .ref (q 13))] := hl
  have hJ : jJ IvC 0 268435456 0 z0 z0 := jJ_rf _ _ _ hI
  refine lv_aload_n hx hb dX1_copyRow_0 rfl (lv_at hl 1 rfl) ?_
  refine b_get (ci := 1) (C := RX1) (T := TX1) (Nf := 2) (v := .ref (q 14)) hx hb hts in_X1_copyRow_X1 hown hK hH 13 (by decide) rfl rfl 1 (by decide) (hts (.fieldLink RX1 9 "StationLine$Putting" "row" "[I") (List.mem_of_getElem? (i := 1) rfl)) rfl dX1_copyRow_1 ?_
  refine lv_iconst (v := 0) hx hb dX1_copyRow_4 (by decide) ?_
  refine lv_aload_n hx hb dX1_copyRow_5 rfl (lv_at hl 0 rfl) ?_
  refine b_get (ci := 1) (C := RX1) (T := TX1) (Nf := 2) (v := .ref (q 28)) hx hb hts in_X1_copyRow_X1 hown hK hH 27 (by decide) rfl rfl 1 (by decide) (hts (.fieldLink RX1 9 "StationLine$Putting" "row" "[I") (List.mem_of_getElem? (i := 1) rfl)) rfl dX1_copyRow_6 ?_
  refine lv_iconst (v := 0) hx hb dX1_copyRow_9 (by decide) ?_
  refine lv_bipush (v := 10) hx hb dX1_copyRow_10 (by decide) ?_
  refine b_copyi hx hb (by rw [hml]; exact hl.1.symm) hown (hts (.methodLink RX1 19 arraycopyName) (List.mem_of_getElem? (i := 2) rfl)) (hts (.native arraycopyName) (List.mem_of_getElem? (i := 3) rfl)) (hts (.static arraycopyName) (List.mem_of_getElem? (i := 4) rfl)) (hts (.initialized "java/lang/System") (List.mem_of_getElem? (i := 5) rfl)) hK hH 14 28 (by decide) (by decide) rfl rfl (by decide) (by decide) (by decide) (by decide) (by decide) (Nat.le_of_ble_eq_true rfl) (Nat.le_of_ble_eq_true rfl) (upA z0 28 (va_cpy (z0.2.1 14) (z0.2.1 28) (0 : Int32).toNatClampNeg (0 : Int32).toNatClampNeg (10 : Int32).toNatClampNeg)) rfl (enC_A _ _ _ _ _) dX1_copyRow_12 (fun H locs hH => ?_)
  obtain ⟨z2, hz2⟩ : ∃ w : zS, w = upA z0 28 (va_cpy (z0.2.1 14) (z0.2.1 28) (0 : Int32).toNatClampNeg (0 : Int32).toNatClampNeg (10 : Int32).toNatClampNeg) := ⟨_, rfl⟩
  rw [← hz2] at hH
  have hJ : jJ IvC 0 268435456 0 z0 z2 := by rw [hz2]; exact jJ_A hJ (by decide) (IvC_R28 hJ.1 (rw_cpy (IvC_a14 hJ.1) (IvC_a28 hJ.1)))
  exact hret z2 H locs _ _ hJ hH dX1_copyRow_15
set_option maxHeartbeats 4000000 in
set_option maxRecDepth 100000 in
theorem g_X1_copyRow_13_27 (l : Launch) (D : va_G) (cy : Nat → ClassId) (q : Nat → Nat) (hq : bJ 66 q) (z0 : zS) (hI : IvC z0)  : bCv l yX1_copyRow wsX1_copyRow ({ frames := 1, cells := 0, slots := 0, locals := 40 }) D cy 66 (enC cy) q z0 [.ref (q 13), .ref (q 27)] (fun z => jJ IvC 0 16384 0 z0 z) := by
  refine hM_v cX1_copyRow (by decide) rfl (own := RX1) rfl hq (Nat.le_of_ble_eq_true rfl) ?_
  intro p e s m args below meth c Q ls H locs hx hb hml hown hts hK hZ hH hl hret
  have hl : lv_has ls 2 [(0, .ref (q 13)), (1, .ref (q 27))] := hl
  have hJ : jJ IvC 0 16384 0 z0 z0 := jJ_rf _ _ _ hI
  refine lv_aload_n hx hb dX1_copyRow_0 rfl (lv_at hl 1 rfl) ?_
  refine b_get (ci := 1) (C := RX1) (T := TX1) (Nf := 2) (v := .ref (q 28)) hx hb hts in_X1_copyRow_X1 hown hK hH 27 (by decide) rfl rfl 1 (by decide) (hts (.fieldLink RX1 9 "StationLine$Putting" "row" "[I") (List.mem_of_getElem? (i := 1) rfl)) rfl dX1_copyRow_1 ?_
  refine lv_iconst (v := 0) hx hb dX1_copyRow_4 (by decide) ?_
  refine lv_aload_n hx hb dX1_copyRow_5 rfl (lv_at hl 0 rfl) ?_
  refine b_get (ci := 1) (C := RX1) (T := TX1) (Nf := 2) (v := .ref (q 14)) hx hb hts in_X1_copyRow_X1 hown hK hH 13 (by decide) rfl rfl 1 (by decide) (hts (.fieldLink RX1 9 "StationLine$Putting" "row" "[I") (List.mem_of_getElem? (i := 1) rfl)) rfl dX1_copyRow_6 ?_
  refine lv_iconst (v := 0) hx hb dX1_copyRow_9 (by decide) ?_
  refine lv_bipush (v := 10) hx hb dX1_copyRow_10 (by decide) ?_
  refine b_copyi hx hb (by rw [hml]; exact hl.1.symm) hown (hts (.methodLink RX1 19 arraycopyName) (List.mem_of_getElem? (i := 2) rfl)) (hts (.native arraycopyName) (List.mem_of_getElem? (i := 3) rfl)) (hts (.static arraycopyName) (List.mem_of_getElem? (i := 4) rfl)) (hts (.initialized "java/lang/System") (List.mem_of_getElem? (i := 5) rfl)) hK hH 28 14 (by decide) (by decide) rfl rfl (by decide) (by decide) (by decide) (by decide) (by decide) (Nat.le_of_ble_eq_true rfl) (Nat.le_of_ble_eq_true rfl) (upA z0 14 (va_cpy (z0.2.1 28) (z0.2.1 14) (0 : Int32).toNatClampNeg (0 : Int32).toNatClampNeg (10 : Int32).toNatClampNeg)) rfl (enC_A _ _ _ _ _) dX1_copyRow_12 (fun H locs hH => ?_)
  obtain ⟨z2, hz2⟩ : ∃ w : zS, w = upA z0 14 (va_cpy (z0.2.1 28) (z0.2.1 14) (0 : Int32).toNatClampNeg (0 : Int32).toNatClampNeg (10 : Int32).toNatClampNeg) := ⟨_, rfl⟩
  rw [← hz2] at hH
  have hJ : jJ IvC 0 16384 0 z0 z2 := by rw [hz2]; exact jJ_A hJ (by decide) (IvC_R14 hJ.1 (rw_cpy (IvC_a28 hJ.1) (IvC_a14 hJ.1)))
  exact hret z2 H locs _ _ hJ hH dX1_copyRow_15
set_option maxHeartbeats 4000000 in
set_option maxRecDepth 100000 in
theorem g_X1_copyRow_13_55 (l : Launch) (D : va_G) (cy : Nat → ClassId) (q : Nat → Nat) (hq : bJ 66 q) (z0 : zS) (hI : IvC z0)  : bCv l yX1_copyRow wsX1_copyRow ({ frames := 1, cells := 0, slots := 0, locals := 40 }) D cy 66 (enC cy) q z0 [.ref (q 13), .ref (q 55)] (fun z => jJ IvC 0 16384 0 z0 z) := by
  refine hM_v cX1_copyRow (by decide) rfl (own := RX1) rfl hq (Nat.le_of_ble_eq_true rfl) ?_
  intro p e s m args below meth c Q ls H locs hx hb hml hown hts hK hZ hH hl hret
  have hl : lv_has ls 2 [(0, .ref (q 13)), (1, .ref (q 55))] := hl
  have hJ : jJ IvC 0 16384 0 z0 z0 := jJ_rf _ _ _ hI
  refine lv_aload_n hx hb dX1_copyRow_0 rfl (lv_at hl 1 rfl) ?_
  refine b_get (ci := 1) (C := RX1) (T := TX1) (Nf := 2) (v := .ref (q 56)) hx hb hts in_X1_copyRow_X1 hown hK hH 55 (by decide) rfl rfl 1 (by decide) (hts (.fieldLink RX1 9 "StationLine$Putting" "row" "[I") (List.mem_of_getElem? (i := 1) rfl)) rfl dX1_copyRow_1 ?_
  refine lv_iconst (v := 0) hx hb dX1_copyRow_4 (by decide) ?_
  refine lv_aload_n hx hb dX1_copyRow_5 rfl (lv_at hl 0 rfl) ?_
  refine b_get (ci := 1) (C := RX1) (T := TX1) (Nf := 2) (v := .ref (q 14)) hx hb hts in_X1_copyRow_X1 hown hK hH 13 (by decide) rfl rfl 1 (by decide) (hts (.fieldLink RX1 9 "StationLine$Putting" "row" "[I") (List.mem_of_getElem? (i := 1) rfl)) rfl dX1_copyRow_6 ?_
  refine lv_iconst (v := 0) hx hb dX1_copyRow_9 (by decide) ?_
  refine lv_bipush (v := 10) hx hb dX1_copyRow_10 (by decide) ?_
  refine b_copyi hx hb (by rw [hml]; exact hl.1.symm) hown (hts (.methodLink RX1 19 arraycopyName) (List.mem_of_getElem? (i := 2) rfl)) (hts (.native arraycopyName) (List.mem_of_getElem? (i := 3) rfl)) (hts (.static arraycopyName) (List.mem_of_getElem? (i := 4) rfl)) (hts (.initialized "java/lang/System") (List.mem_of_getElem? (i := 5) rfl)) hK hH 56 14 (by decide) (by decide) rfl rfl (by decide) (by decide) (by decide) (by decide) (by decide) (Nat.le_of_ble_eq_true rfl) (Nat.le_of_ble_eq_true rfl) (upA z0 14 (va_cpy (z0.2.1 56) (z0.2.1 14) (0 : Int32).toNatClampNeg (0 : Int32).toNatClampNeg (10 : Int32).toNatClampNeg)) rfl (enC_A _ _ _ _ _) dX1_copyRow_12 (fun H locs hH => ?_)
  obtain ⟨z2, hz2⟩ : ∃ w : zS, w = upA z0 14 (va_cpy (z0.2.1 56) (z0.2.1 14) (0 : Int32).toNatClampNeg (0 : Int32).toNatClampNeg (10 : Int32).toNatClampNeg) := ⟨_, rfl⟩
  rw [← hz2] at hH
  have hJ : jJ IvC 0 16384 0 z0 z2 := by rw [hz2]; exact jJ_A hJ (by decide) (IvC_R14 hJ.1 (rw_cpy (IvC_a56 hJ.1) (IvC_a14 hJ.1)))
  exact hret z2 H locs _ _ hJ hH dX1_copyRow_15
set_option maxHeartbeats 4000000 in
set_option maxRecDepth 100000 in
theorem g_X1_squareAt_13 (l : Launch) (D : va_G) (cy : Nat → ClassId) (q : Nat → Nat) (hq : bJ 66 q) (z0 : zS) (hI : IvC z0) (p0 : Int32) : bCl l yX1_squareAt wsX1_squareAt ({ frames := 3, cells := 0, slots := 0, locals := 74 }) D cy 66 (enC cy) q z0 [.ref (q 13), .int p0] (fun v z => jJ IvC 0 0 0 z0 z) := by
  refine hM_l cX1_squareAt (by decide) rfl (own := RX1) rfl hq (Nat.le_of_ble_eq_true rfl) ?_
  intro p e s m args below meth c Q ls H locs hx hb hml hown hts hK hZ hH hl hret
  have hl : lv_has ls 4 [(0, .ref (q 13)), (1, .int p0)] := hl
  have hJ : jJ IvC 0 0 0 z0 z0 := jJ_rf _ _ _ hI
  refine lv_aload_n hx hb dX1_squareAt_0 rfl (lv_at hl 0 rfl) ?_
  refine b_get (ci := 1) (C := RX1) (T := TX1) (Nf := 2) (v := .ref (q 1)) hx hb hts in_X1_squareAt_X1 hown hK hH 13 (by decide) rfl rfl 0 (by decide) (hts (.fieldLink RX1 15 "StationLine$Putting" "bench" "LStationLine$Bench;") (List.mem_of_getElem? (i := 1) rfl)) rfl dX1_squareAt_1 ?_
  refine lv_aload_n hx hb dX1_squareAt_4 rfl (lv_at hl 0 rfl) ?_
  refine lv_iload_n hx hb dX1_squareAt_5 rfl (lv_at hl 1 rfl) ?_
  refine b_calli (As := [.int p0]) (rest := [.ref (q 1)]) ⟨hx, hb, hml, hown, hts⟩ 13 1 (g_X1_setAt_13 l D cy q hH.2.1 z0 hJ.1 p0) (cwV 1 hts gX1_squareAt_X1_setAt rfl rfl rfl (by decide +kernel) ⟨Nat.le_of_ble_eq_true rfl, Nat.le_of_ble_eq_true rfl⟩) hK hZ hH (by decide) rfl rfl rfl hl.1 rfl (Nat.le_of_ble_eq_true rfl) ⟨Nat.zero_le _, Nat.zero_le _⟩ dX1_squareAt_6 (fun w5 z5 H locs hp hH => ?_)
  rw [Ag_0 hp.1.2] at hH
  have i5 := hp.2
  refine b_calli (As := [.int w5]) (rest := []) ⟨hx, hb, hml, hown, hts⟩ 1 0 (g_X0_loadOf_1 l D cy q hH.2.1 z0 hJ.1 w5) (cwV 1 hts gX1_squareAt_X0_loadOf rfl rfl rfl (by decide +kernel) ⟨Nat.le_of_ble_eq_true rfl, Nat.le_of_ble_eq_true rfl⟩) hK hZ hH (by decide) rfl rfl rfl hl.1 rfl (Nat.le_of_ble_eq_true rfl) ⟨Nat.zero_le _, Nat.zero_le _⟩ dX1_squareAt_9 (fun w6 z6 H locs hp hH => ?_)
  rw [Ag_0 hp.1.2] at hH
  refine lv_i2l hx hb dX1_squareAt_12 rfl ?_
  refine h_l (fun w7 => ?_)
  refine lv_lstore_n (lv' := [(2, .long w7), (0, .ref (q 13)), (1, .int p0)]) hx hb dX1_squareAt_13 rfl hl (by decide) rfl (fun ls hl => ?_)
  refine lv_lload_n hx hb dX1_squareAt_14 rfl (lv_at hl 0 rfl) ?_
  refine lv_lload_n hx hb dX1_squareAt_15 rfl (lv_at hl 0 rfl) ?_
  refine lv_lmul hx hb dX1_squareAt_16 ?_
  refine h_l (fun w8 => ?_)
  exact hret _ z0 H locs _ _ hJ hH dX1_squareAt_17
set_option maxHeartbeats 4000000 in
set_option maxRecDepth 100000 in
theorem g_X1_squareSum_13 (l : Launch) (D : va_G) (cy : Nat → ClassId) (q : Nat → Nat) (hq : bJ 66 q) (z0 : zS) (hI : IvC z0)  : bCl l yX1_squareSum wsX1_squareSum ({ frames := 4, cells := 0, slots := 0, locals := 97 }) D cy 66 (enC cy) q z0 [.ref (q 13)] (fun v z => jJ IvC 0 0 0 z0 z) := by
  refine hM_l cX1_squareSum (by decide) rfl (own := RX1) rfl hq (Nat.le_of_ble_eq_true rfl) ?_
  intro p e s m args below meth c Q ls H locs hx hb hml hown hts hK hZ hH hl hret
  have hl : lv_has ls 4 [(0, .ref (q 13))] := hl
  have hJ : jJ IvC 0 0 0 z0 z0 := jJ_rf _ _ _ hI
  have HL4 : ∀ (n : Nat) (x1_4 : Int64) (x3_4 : Int32) (H : Heap) (locs : List Loc) (ls : Array Slot), iv 1 11 x3_4 → bH D 66 (enC cy) q z0 s.heap H locs → lv_has ls 4 [(0, .ref (q 13)), (1, .long x1_4), (3, .int x3_4)] → (11 - x3_4.toInt).toNat = n → W p l e ({ frames := 4, cells := 0, slots := 0, locals := 97 }) s m args below meth c H locs 0 0 Q (F0 m 4 ls []) := by
    intro n4
    induction n4 using Nat.strongRecOn with
    | ind n4 ih4 =>
      intro x1_4 x3_4 H locs ls h3_4 hH hl hn4
      refine lv_iload_n hx hb dX1_squareSum_4 rfl (lv_at hl 2 rfl) ?_
      refine lv_bipush (v := 10) hx hb dX1_squareSum_5 (by decide) ?_
      refine lv_icmp_gt (tgt := 24) hx hb dX1_squareSum_7 (by decide) (fun c37 => ?_) (fun c37 => ?_)
      · skip
        have k38b : iv 11 11 x3_4 := iv_ltr (iv_Lt c37) (iv_lit (n := 10) 10 (by decide)) h3_4 (by decide)
        refine lv_lload_n hx hb dX1_squareSum_24 rfl (lv_at hl 1 rfl) ?_
        exact hret _ z0 H locs _ _ hJ hH dX1_squareSum_25
      · skip
        have k39a : iv 1 10 x3_4 := iv_lel (iv_nLt c37) h3_4 (iv_lit (n := 10) 10 (by decide))
        refine lv_lload_n hx hb dX1_squareSum_10 rfl (lv_at hl 1 rfl) ?_
        refine lv_aload_n hx hb dX1_squareSum_11 rfl (lv_at hl 0 rfl) ?_
        refine lv_iload_n hx hb dX1_squareSum_12 rfl (lv_at hl 2 rfl) ?_
        refine b_calll (As := [.int x3_4]) (rest := [.long x1_4]) ⟨hx, hb, hml, hown, hts⟩ 13 1 (g_X1_squareAt_13 l D cy q hH.2.1 z0 hJ.1 x3_4) (cwV 1 hts gX1_squareSum_X1_squareAt rfl rfl rfl (by decide +kernel) ⟨Nat.le_of_ble_eq_true rfl, Nat.le_of_ble_eq_true rfl⟩) hK hZ hH (by decide) rfl rfl rfl hl.1 rfl (Nat.le_of_ble_eq_true rfl) ⟨Nat.zero_le _, Nat.zero_le _⟩ dX1_squareSum_13 (fun w40 z40 H locs hp hH => ?_)
        rw [Ag_0 hp.2] at hH
        refine lv_ladd hx hb dX1_squareSum_16 ?_
        refine h_l (fun w41 => ?_)
        refine lv_lstore_n (lv' := [(1, .long w41), (0, .ref (q 13)), (3, .int x3_4)]) hx hb dX1_squareSum_17 rfl hl (by decide) rfl (fun ls hl => ?_)
        have j42 : iv 2 11 (x3_4 + 1) := iv_add k39a (iv_lit (n := 1) 1 (by decide)) (by decide) (by decide) (by decide) (by decide)
        have e42 : (x3_4 + 1).toInt = x3_4.toInt + 1 := (iv_addE k39a (iv_lit (n := 1) 1 (by decide)) (by decide) (by decide)).trans rfl
        refine lv_iinc (v := (x3_4 + 1)) (lv' := [(3, .int (x3_4 + 1)), (1, .long w41), (0, .ref (q 13))]) hx hb dX1_squareSum_18 hl (k := 2) rfl rfl (by decide) rfl (fun ls hl => ?_)
        refine lv_goto (tgt := 4) hx hb dX1_squareSum_21 (by decide) ?_
        exact ih4 _ (ms_up e42 j42.2 hn4) w41 (x3_4 + 1)  H locs ls (iv_w j42 (by decide) (by decide))  hH (lv_sub hl [2, 1, 0] rfl) rfl
  refine lv_lconst (v := 0) hx hb dX1_squareSum_0 (by decide) ?_
  refine lv_lstore_n (lv' := [(1, .long 0), (0, .ref (q 13))]) hx hb dX1_squareSum_1 rfl hl (by decide) rfl (fun ls hl => ?_)
  refine lv_iconst (v := 1) hx hb dX1_squareSum_2 (by decide) ?_
  refine lv_istore_n (lv' := [(3, .int 1), (1, .long 0), (0, .ref (q 13))]) hx hb dX1_squareSum_3 rfl hl (by decide) rfl (fun ls hl => ?_)
  exact HL4 _ 0 1  H locs ls (iv_w (iv_lit (n := 1) 1 (by decide)) (by decide) (by decide))  hH (lv_sub hl [2, 1, 0] rfl) rfl
set_option maxHeartbeats 4000000 in
set_option maxRecDepth 100000 in
theorem g_X1_moveIfBetter_13 (l : Launch) (D : va_G) (cy : Nat → ClassId) (q : Nat → Nat) (hq : bJ 66 q) (z0 : zS) (hI : IvC z0) (p0 : Int32) (hp0 : iv 0 9 p0) (p1 : Int32) (hp1 : iv 1 10 p1) : bCi l yX1_moveIfBetter wsX1_moveIfBetter ({ frames := 5, cells := 0, slots := 0, locals := 118 }) D cy 66 (enC cy) q z0 [.ref (q 13), .int p0, .int p1] (fun v z => jJ IvC 0 16384 0 z0 z ∧ iv 0 1 v) := by
  refine hM_z cX1_moveIfBetter (by decide) rfl (own := RX1) rfl hq (Nat.le_of_ble_eq_true rfl) ?_
  intro p e s m args below meth c Q ls H locs hx hb hml hown hts hK hZ hH hl hret
  have hl : lv_has ls 8 [(0, .ref (q 13)), (1, .int p0), (2, .int p1)] := hl
  have hJ : jJ IvC 0 16384 0 z0 z0 := jJ_rf _ _ _ hI
  have HJ57 : ∀ (x3_57 : Int32) (z_57 : zS) (H : Heap) (locs : List Loc) (ls : Array Slot), iv 0 10 x3_57 → jJ IvC 0 16384 0 z0 z_57 → bH D 66 (enC cy) q z_57 s.heap H locs → lv_has ls 8 [(0, .ref (q 13)), (1, .int p0), (3, .int x3_57)] → W p l e ({ frames := 5, cells := 0, slots := 0, locals := 118 }) s m args below meth c H locs 0 0 Q (F0 m 57 ls []) := by
    intro x3_57 z_57 H locs ls h3_57 hJ hH hl
    refine lv_aload_n hx hb dX1_moveIfBetter_57 rfl (lv_at hl 0 rfl) ?_
    refine b_get (ci := 1) (C := RX1) (T := TX1) (Nf := 2) (v := .ref (q 14)) hx hb hts in_X1_moveIfBetter_X1 hown hK hH 13 (by decide) rfl rfl 1 (by decide) (hts (.fieldLink RX1 9 "StationLine$Putting" "row" "[I") (List.mem_of_getElem? (i := 1) rfl)) rfl dX1_moveIfBetter_58 ?_
    refine lv_iload_n hx hb dX1_moveIfBetter_61 rfl (lv_at hl 1 rfl) ?_
    refine lv_iload_n hx hb dX1_moveIfBetter_62 rfl (lv_at hl 2 rfl) ?_
    refine b_iast hx hb hK hH 14 (by decide) rfl (iv_in hp0 (by decide) (by decide)) (upA z_57 14 (upd (z_57.2.1 14) (p0 : Int32).toNatClampNeg x3_57)) rfl (enC_A _ _ _ _ _) dX1_moveIfBetter_63 (fun H locs hH => ?_)
    obtain ⟨z18, hz18⟩ : ∃ w : zS, w = upA z_57 14 (upd (z_57.2.1 14) (p0 : Int32).toNatClampNeg x3_57) := ⟨_, rfl⟩
    rw [← hz18] at hH
    have hJ : jJ IvC 0 16384 0 z0 z18 := by rw [hz18]; exact jJ_A hJ (by decide) (IvC_A14 hJ.1 _ (iv_w h3_57 (by decide) (by decide)))
    refine lv_iconst (v := 0) hx hb dX1_moveIfBetter_64 (by decide) ?_
    exact hret _ z18 H locs _ _ (iv_w (iv_lit (n := 0) 0 (by decide)) (by decide) (by decide)) ⟨hJ, (iv_w (iv_lit (n := 0) 0 (by decide)) (by decide) (by decide))⟩ hH dX1_moveIfBetter_65
  refine lv_aload_n hx hb dX1_moveIfBetter_0 rfl (lv_at hl 0 rfl) ?_
  refine b_get (ci := 1) (C := RX1) (T := TX1) (Nf := 2) (v := .ref (q 14)) hx hb hts in_X1_moveIfBetter_X1 hown hK hH 13 (by decide) rfl rfl 1 (by decide) (hts (.fieldLink RX1 9 "StationLine$Putting" "row" "[I") (List.mem_of_getElem? (i := 1) rfl)) rfl dX1_moveIfBetter_1 ?_
  refine lv_iload_n hx hb dX1_moveIfBetter_4 rfl (lv_at hl 1 rfl) ?_
  refine b_iald (v := z0.2.1 14 (p0 : Int32).toNatClampNeg) hx hb hK hH 14 (by decide) rfl (iv_in hp0 (by decide) (by decide)) rfl dX1_moveIfBetter_5 ?_
  have i19 : iv 0 10 (z0.2.1 14 (p0 : Int32).toNatClampNeg) := IvC_a14 hJ.1 _ (b_inlt (iv_in hp0 (by decide) (by decide)))
  refine lv_istore_n (lv' := [(3, .int (z0.2.1 14 (p0 : Int32).toNatClampNeg)), (0, .ref (q 13)), (1, .int p0), (2, .int p1)]) hx hb dX1_moveIfBetter_6 rfl hl (by decide) rfl (fun ls hl => ?_)
  refine lv_aload_n hx hb dX1_moveIfBetter_7 rfl (lv_at hl 1 rfl) ?_
  refine lv_iload_n hx hb dX1_moveIfBetter_8 rfl (lv_at hl 0 rfl) ?_
  refine b_calll (As := [.int (z0.2.1 14 (p0 : Int32).toNatClampNeg)]) (rest := []) ⟨hx, hb, hml, hown, hts⟩ 13 1 (g_X1_squareAt_13 l D cy q hH.2.1 z0 hJ.1 (z0.2.1 14 (p0 : Int32).toNatClampNeg)) (cwV 1 hts gX1_moveIfBetter_X1_squareAt rfl rfl rfl (by decide +kernel) ⟨Nat.le_of_ble_eq_true rfl, Nat.le_of_ble_eq_true rfl⟩) hK hZ hH (by decide) rfl rfl rfl hl.1 rfl (Nat.le_of_ble_eq_true rfl) ⟨Nat.zero_le _, Nat.zero_le _⟩ dX1_moveIfBetter_9 (fun w20 z20 H locs hp hH => ?_)
  rw [Ag_0 hp.2] at hH
  refine lv_aload_n hx hb dX1_moveIfBetter_12 rfl (lv_at hl 1 rfl) ?_
  refine lv_iload_n hx hb dX1_moveIfBetter_13 rfl (lv_at hl 3 rfl) ?_
  refine b_calll (As := [.int p1]) (rest := [.long w20]) ⟨hx, hb, hml, hown, hts⟩ 13 1 (g_X1_squareAt_13 l D cy q hH.2.1 z0 hJ.1 p1) (cwV 1 hts gX1_moveIfBetter_X1_squareAt rfl rfl rfl (by decide +kernel) ⟨Nat.le_of_ble_eq_true rfl, Nat.le_of_ble_eq_true rfl⟩) hK hZ hH (by decide) rfl rfl rfl hl.1 rfl (Nat.le_of_ble_eq_true rfl) ⟨Nat.zero_le _, Nat.zero_le _⟩ dX1_moveIfBetter_14 (fun w21 z21 H locs hp hH => ?_)
  rw [Ag_0 hp.2] at hH
  refine lv_ladd hx hb dX1_moveIfBetter_17 ?_
  refine h_l (fun w22 => ?_)
  refine lv_lstore (lv' := [(4, .long w22), (3, .int (z0.2.1 14 (p0 : Int32).toNatClampNeg)), (0, .ref (q 13)), (1, .int p0), (2, .int p1)]) hx hb dX1_moveIfBetter_18 hl (by decide) rfl (fun ls hl => ?_)
  refine lv_aload_n hx hb dX1_moveIfBetter_20 rfl (lv_at hl 2 rfl) ?_
  refine b_get (ci := 1) (C := RX1) (T := TX1) (Nf := 2) (v := .ref (q 14)) hx hb hts in_X1_moveIfBetter_X1 hown hK hH 13 (by decide) rfl rfl 1 (by decide) (hts (.fieldLink RX1 9 "StationLine$Putting" "row" "[I") (List.mem_of_getElem? (i := 1) rfl)) rfl dX1_moveIfBetter_21 ?_
  refine lv_iload_n hx hb dX1_moveIfBetter_24 rfl (lv_at hl 3 rfl) ?_
  refine lv_iload_n hx hb dX1_moveIfBetter_25 rfl (lv_at hl 4 rfl) ?_
  refine b_iast hx hb hK hH 14 (by decide) rfl (iv_in hp0 (by decide) (by decide)) (upA z0 14 (upd (z0.2.1 14) (p0 : Int32).toNatClampNeg p1)) rfl (enC_A _ _ _ _ _) dX1_moveIfBetter_26 (fun H locs hH => ?_)
  obtain ⟨z23, hz23⟩ : ∃ w : zS, w = upA z0 14 (upd (z0.2.1 14) (p0 : Int32).toNatClampNeg p1) := ⟨_, rfl⟩
  rw [← hz23] at hH
  have hJ : jJ IvC 0 16384 0 z0 z23 := by rw [hz23]; exact jJ_A hJ (by decide) (IvC_A14 hJ.1 _ (iv_w hp1 (by decide) (by decide)))
  refine lv_aload_n hx hb dX1_moveIfBetter_27 rfl (lv_at hl 2 rfl) ?_
  refine lv_iload_n hx hb dX1_moveIfBetter_28 rfl (lv_at hl 1 rfl) ?_
  refine b_calll (As := [.int (z0.2.1 14 (p0 : Int32).toNatClampNeg)]) (rest := []) ⟨hx, hb, hml, hown, hts⟩ 13 1 (g_X1_squareAt_13 l D cy q hH.2.1 z23 hJ.1 (z0.2.1 14 (p0 : Int32).toNatClampNeg)) (cwV 1 hts gX1_moveIfBetter_X1_squareAt rfl rfl rfl (by decide +kernel) ⟨Nat.le_of_ble_eq_true rfl, Nat.le_of_ble_eq_true rfl⟩) hK hZ hH (by decide) rfl rfl rfl hl.1 rfl (Nat.le_of_ble_eq_true rfl) ⟨Nat.zero_le _, Nat.zero_le _⟩ dX1_moveIfBetter_29 (fun w24 z24 H locs hp hH => ?_)
  rw [Ag_0 hp.2] at hH
  refine lv_aload_n hx hb dX1_moveIfBetter_32 rfl (lv_at hl 2 rfl) ?_
  refine lv_iload_n hx hb dX1_moveIfBetter_33 rfl (lv_at hl 4 rfl) ?_
  refine b_calll (As := [.int p1]) (rest := [.long w24]) ⟨hx, hb, hml, hown, hts⟩ 13 1 (g_X1_squareAt_13 l D cy q hH.2.1 z23 hJ.1 p1) (cwV 1 hts gX1_moveIfBetter_X1_squareAt rfl rfl rfl (by decide +kernel) ⟨Nat.le_of_ble_eq_true rfl, Nat.le_of_ble_eq_true rfl⟩) hK hZ hH (by decide) rfl rfl rfl hl.1 rfl (Nat.le_of_ble_eq_true rfl) ⟨Nat.zero_le _, Nat.zero_le _⟩ dX1_moveIfBetter_34 (fun w25 z25 H locs hp hH => ?_)
  rw [Ag_0 hp.2] at hH
  refine lv_ladd hx hb dX1_moveIfBetter_37 ?_
  refine h_l (fun w26 => ?_)
  refine lv_lstore (lv' := [(6, .long w26), (4, .long w22), (3, .int (z0.2.1 14 (p0 : Int32).toNatClampNeg)), (0, .ref (q 13)), (1, .int p0), (2, .int p1)]) hx hb dX1_moveIfBetter_38 hl (by decide) rfl (fun ls hl => ?_)
  refine lv_lload hx hb dX1_moveIfBetter_40 (lv_at hl 0 rfl) ?_
  refine lv_lload hx hb dX1_moveIfBetter_42 (lv_at hl 1 rfl) ?_
  refine W.lcmp hx hb dX1_moveIfBetter_44 ?_
  refine lv_topi (fun w27 _ => ?_)
  refine lv_if_ge (tgt := 57) hx hb dX1_moveIfBetter_45 (by decide) (fun c28 => ?_) (fun c28 => ?_)
  · skip
    have k29b : iv 0 2147483647 w27 := iv_ler (iv_Le c28) (iv_lit (n := 0) 0 (by decide)) (iv_all w27)
    exact HJ57 (z0.2.1 14 (p0 : Int32).toNatClampNeg) z23 H locs ls i19 hJ hH (lv_sub hl [3, 4, 2] rfl)
  · skip
    have k30a : iv (-2147483648) (-1) w27 := iv_ltl (iv_nLe c28) (iv_all w27) (iv_lit (n := 0) 0 (by decide)) (by decide)
    refine lv_aload_n hx hb dX1_moveIfBetter_48 rfl (lv_at hl 3 rfl) ?_
    refine b_calli (As := []) (rest := []) ⟨hx, hb, hml, hown, hts⟩ 13 1 (g_X1_firstClash_13 l D cy q hH.2.1 z23 hJ.1 ) (cwV 0 hts gX1_moveIfBetter_X1_firstClash rfl rfl rfl (by decide +kernel) ⟨Nat.le_of_ble_eq_true rfl, Nat.le_of_ble_eq_true rfl⟩) hK hZ hH (by decide) rfl rfl rfl hl.1 rfl (Nat.le_of_ble_eq_true rfl) ⟨Nat.zero_le _, Nat.zero_le _⟩ dX1_moveIfBetter_49 (fun w31 z31 H locs hp hH => ?_)
    rw [Ag_0 hp.1.2] at hH
    have i31 := hp.2
    refine lv_if_ge (tgt := 57) hx hb dX1_moveIfBetter_52 (by decide) (fun c32 => ?_) (fun c32 => ?_)
    · skip
      have k33b : iv 0 9 w31 := iv_ler (iv_Le c32) (iv_lit (n := 0) 0 (by decide)) i31
      exact HJ57 (z0.2.1 14 (p0 : Int32).toNatClampNeg) z23 H locs ls i19 hJ hH (lv_sub hl [3, 4, 2] rfl)
    · skip
      have k34a : iv (-1) (-1) w31 := iv_ltl (iv_nLe c32) i31 (iv_lit (n := 0) 0 (by decide)) (by decide)
      refine lv_iconst (v := 1) hx hb dX1_moveIfBetter_55 (by decide) ?_
      exact hret _ z23 H locs _ _ (iv_w (iv_lit (n := 1) 1 (by decide)) (by decide) (by decide)) ⟨hJ, (iv_w (iv_lit (n := 1) 1 (by decide)) (by decide) (by decide))⟩ hH dX1_moveIfBetter_56
set_option maxHeartbeats 4000000 in
set_option maxRecDepth 100000 in
theorem g_X1_moveOnce_13 (l : Launch) (D : va_G) (cy : Nat → ClassId) (q : Nat → Nat) (hq : bJ 66 q) (z0 : zS) (hI : IvC z0)  : bCi l yX1_moveOnce wsX1_moveOnce ({ frames := 6, cells := 0, slots := 0, locals := 145 }) D cy 66 (enC cy) q z0 [.ref (q 13)] (fun v z => jJ IvC 0 16384 0 z0 z ∧ iv 0 1 v) := by
  refine hM_z cX1_moveOnce (by decide) rfl (own := RX1) rfl hq (Nat.le_of_ble_eq_true rfl) ?_
  intro p e s m args below meth c Q ls H locs hx hb hml hown hts hK hZ hH hl hret
  have hl : lv_has ls 4 [(0, .ref (q 13))] := hl
  have hJ : jJ IvC 0 16384 0 z0 z0 := jJ_rf _ _ _ hI
  have HL7 : ∀ (n : Nat) (x1_7 : Int32) (x2_7 : Int32) (z_7 : zS) (H : Heap) (locs : List Loc) (ls : Array Slot), iv 0 10 x1_7 → iv 0 10 x2_7 → jJ IvC 0 16384 0 z0 z_7 → bH D 66 (enC cy) q z_7 s.heap H locs → lv_has ls 4 [(0, .ref (q 13)), (1, .int x1_7), (2, .int x2_7)] → (10 - x2_7.toInt).toNat = n → W p l e ({ frames := 6, cells := 0, slots := 0, locals := 145 }) s m args below meth c H locs 0 0 Q (F0 m 7 ls []) := by
    intro n7
    induction n7 using Nat.strongRecOn with
    | ind n7 ih7 =>
      intro x1_7 x2_7 z_7 H locs ls h1_7 h2_7 hJ hH hl hn7
      have HL20 : ∀ (n : Nat) (x3_20 : Int32) (z_20 : zS) (H : Heap) (locs : List Loc) (ls : Array Slot), iv 0 9 x2_7 → iv 1 11 x3_20 → iv 1 10 (z_20.1 0) → jJ IvC 0 16384 0 z0 z_20 → bH D 66 (enC cy) q z_20 s.heap H locs → lv_has ls 4 [(0, .ref (q 13)), (1, .int x1_7), (2, .int x2_7), (3, .int x3_20)] → (11 - x3_20.toInt).toNat = n → W p l e ({ frames := 6, cells := 0, slots := 0, locals := 145 }) s m args below meth c H locs 0 0 Q (F0 m 20 ls []) := by
        intro n20
        induction n20 using Nat.strongRecOn with
        | ind n20 ih20 =>
          intro x3_20 z_20 H locs ls h2_20 h3_20 gh0_20 hJ hH hl hn20
          have HJ46 : ∀ (z_46 : zS) (H : Heap) (locs : List Loc) (ls : Array Slot), iv 1 10 x1_7 → iv 1 10 x3_20 → iv 1 10 (z_46.1 0) → jJ IvC 0 16384 0 z0 z_46 → bH D 66 (enC cy) q z_46 s.heap H locs → lv_has ls 4 [(0, .ref (q 13)), (1, .int x1_7), (2, .int x2_7), (3, .int x3_20)] → W p l e ({ frames := 6, cells := 0, slots := 0, locals := 145 }) s m args below meth c H locs 0 0 Q (F0 m 46 ls []) := by
            intro z_46 H locs ls h1_46 h3_46 gh0_46 hJ hH hl
            have j197 : iv 2 11 (x3_20 + 1) := iv_add h3_46 (iv_lit (n := 1) 1 (by decide)) (by decide) (by decide) (by decide) (by decide)
            have e197 : (x3_20 + 1).toInt = x3_20.toInt + 1 := (iv_addE h3_46 (iv_lit (n := 1) 1 (by decide)) (by decide) (by decide)).trans rfl
            refine lv_iinc (v := (x3_20 + 1)) (lv' := [(3, .int (x3_20 + 1)), (0, .ref (q 13)), (1, .int x1_7), (2, .int x2_7)]) hx hb dX1_moveOnce_46 hl (k := 3) rfl rfl (by decide) rfl (fun ls hl => ?_)
            refine lv_goto (tgt := 20) hx hb dX1_moveOnce_49 (by decide) ?_
            exact ih20 _ (ms_up e197 j197.2 hn20) (x3_20 + 1) z_46 H locs ls h2_20 (iv_w j197 (by decide) (by decide)) gh0_46 hJ hH (lv_sub hl [1, 2, 3, 0] rfl) rfl
          refine lv_iload_n hx hb dX1_moveOnce_20 rfl (lv_at hl 3 rfl) ?_
          refine lv_iload_n hx hb dX1_moveOnce_21 rfl (lv_at hl 1 rfl) ?_
          refine lv_icmp_gt (tgt := 52) hx hb dX1_moveOnce_22 (by decide) (fun c198 => ?_) (fun c198 => ?_)
          · skip
            have j200 : iv 1 10 (x2_7 + 1) := iv_add h2_20 (iv_lit (n := 1) 1 (by decide)) (by decide) (by decide) (by decide) (by decide)
            have e200 : (x2_7 + 1).toInt = x2_7.toInt + 1 := (iv_addE h2_20 (iv_lit (n := 1) 1 (by decide)) (by decide) (by decide)).trans rfl
            refine lv_iinc (v := (x2_7 + 1)) (lv' := [(2, .int (x2_7 + 1)), (0, .ref (q 13)), (1, .int x1_7), (3, .int x3_20)]) hx hb dX1_moveOnce_52 hl (k := 2) rfl rfl (by decide) rfl (fun ls hl => ?_)
            refine lv_goto (tgt := 7) hx hb dX1_moveOnce_55 (by decide) ?_
            exact ih7 _ (ms_up e200 j200.2 hn7) x1_7 (x2_7 + 1) z_20 H locs ls h1_7 (iv_w j200 (by decide) (by decide)) hJ hH (lv_sub hl [1, 2, 0] rfl) rfl
          · skip
            have k201a : iv 1 10 x3_20 := iv_lel (iv_nLt c198) h3_20 h1_7
            have k201b : iv 1 10 x1_7 := iv_ler (iv_nLt c198) h3_20 h1_7
            refine lv_iload_n hx hb dX1_moveOnce_25 rfl (lv_at hl 3 rfl) ?_
            refine lv_aload_n hx hb dX1_moveOnce_26 rfl (lv_at hl 0 rfl) ?_
            refine b_get (ci := 1) (C := RX1) (T := TX1) (Nf := 2) (v := .ref (q 14)) hx hb hts in_X1_moveOnce_X1 hown hK hH 13 (by decide) rfl rfl 1 (by decide) (hts (.fieldLink RX1 9 "StationLine$Putting" "row" "[I") (List.mem_of_getElem? (i := 3) rfl)) rfl dX1_moveOnce_27 ?_
            refine lv_iload_n hx hb dX1_moveOnce_30 rfl (lv_at hl 2 rfl) ?_
            refine b_iald (v := z_20.2.1 14 (x2_7 : Int32).toNatClampNeg) hx hb hK hH 14 (by decide) rfl (iv_in h2_20 (by decide) (by decide)) rfl dX1_moveOnce_31 ?_
            have i202 : iv 0 10 (z_20.2.1 14 (x2_7 : Int32).toNatClampNeg) := IvC_a14 hJ.1 _ (b_inlt (iv_in h2_20 (by decide) (by decide)))
            refine lv_icmp_eq (tgt := 46) hx hb dX1_moveOnce_32 (by decide) (fun c203 => ?_) (fun c203 => ?_)
            · skip
              have k204b : iv 1 10 (z_20.2.1 14 (x2_7 : Int32).toNatClampNeg) := iv_eql ((iv_Eq c203)).symm i202 k201a (by decide) (by decide)
              exact HJ46  z_20 H locs ls k201b k201a gh0_20 hJ hH (lv_sub hl [0, 1, 2, 3] rfl)
            · skip
              refine lv_aload_n hx hb dX1_moveOnce_35 rfl (lv_at hl 0 rfl) ?_
              refine lv_iload_n hx hb dX1_moveOnce_36 rfl (lv_at hl 2 rfl) ?_
              refine lv_iload_n hx hb dX1_moveOnce_37 rfl (lv_at hl 3 rfl) ?_
              refine b_calli (As := [.int x2_7, .int x3_20]) (rest := []) ⟨hx, hb, hml, hown, hts⟩ 13 1 (g_X1_moveIfBetter_13 l D cy q hH.2.1 z_20 hJ.1 x2_7 h2_20 x3_20 k201a) (cwV 2 hts gX1_moveOnce_X1_moveIfBetter rfl rfl rfl (by decide +kernel) ⟨Nat.le_of_ble_eq_true rfl, Nat.le_of_ble_eq_true rfl⟩) hK hZ hH (by decide) rfl rfl rfl hl.1 rfl (Nat.le_of_ble_eq_true rfl) ⟨Nat.zero_le _, Nat.zero_le _⟩ dX1_moveOnce_38 (fun w206 z206 H locs hp hH => ?_)
              have hJ := jJ_tr hJ hp.1 (by decide) (by decide) (by decide)
              have i206 := hp.2
              have hA206 := hp.1.2
              have g207 : iv 1 10 (z206.1 0) := by rw [(hp.1).2.1 0 (by decide)]; exact gh0_20
              refine lv_if_eq (tgt := 46) hx hb dX1_moveOnce_41 (by decide) (fun c208 => ?_) (fun c208 => ?_)
              · skip
                have k209a : iv 0 0 w206 := iv_eql (iv_Eq c208) i206 (iv_lit (n := 0) 0 (by decide)) (by decide) (by decide)
                exact HJ46  z206 H locs ls k201b k201a g207 hJ hH (lv_sub hl [0, 1, 2, 3] rfl)
              · skip
                have k210a : iv 1 1 w206 := iv_neLo (iv_nEq c208) i206 (by decide) (by decide)
                refine lv_iconst (v := 1) hx hb dX1_moveOnce_44 (by decide) ?_
                exact hret _ z206 H locs _ _ (iv_w (iv_lit (n := 1) 1 (by decide)) (by decide) (by decide)) ⟨hJ, (iv_w (iv_lit (n := 1) 1 (by decide)) (by decide) (by decide))⟩ hH dX1_moveOnce_45
      refine lv_iload_n hx hb dX1_moveOnce_7 rfl (lv_at hl 2 rfl) ?_
      refine lv_aload_n hx hb dX1_moveOnce_8 rfl (lv_at hl 0 rfl) ?_
      refine b_get (ci := 1) (C := RX1) (T := TX1) (Nf := 2) (v := .ref (q 1)) hx hb hts in_X1_moveOnce_X1 hown hK hH 13 (by decide) rfl rfl 0 (by decide) (hts (.fieldLink RX1 15 "StationLine$Putting" "bench" "LStationLine$Bench;") (List.mem_of_getElem? (i := 1) rfl)) rfl dX1_moveOnce_9 ?_
      refine b_get (ci := 0) (C := RX0) (T := TX0) (Nf := 11) (v := .int (z_7.1 0)) hx hb hts in_X1_moveOnce_X0 hown hK hH 1 (by decide) rfl rfl 0 (by decide) (hts (.fieldLink RX1 25 "StationLine$Bench" "size" "I") (List.mem_of_getElem? (i := 2) rfl)) rfl dX1_moveOnce_12 ?_
      have i211 := IvC_s0 hJ.1
      refine lv_icmp_ge (tgt := 58) hx hb dX1_moveOnce_15 (by decide) (fun c212 => ?_) (fun c212 => ?_)
      · skip
        refine lv_iconst (v := 0) hx hb dX1_moveOnce_58 (by decide) ?_
        exact hret _ z_7 H locs _ _ (iv_w (iv_lit (n := 0) 0 (by decide)) (by decide) (by decide)) ⟨hJ, (iv_w (iv_lit (n := 0) 0 (by decide)) (by decide) (by decide))⟩ hH dX1_moveOnce_59
      · skip
        have k214a : iv 0 9 x2_7 := iv_ltl (iv_nLe c212) h2_7 i211 (by decide)
        have k214b : iv 1 10 (z_7.1 0) := iv_ltr (iv_nLe c212) h2_7 i211 (by decide)
        refine lv_iconst (v := 1) hx hb dX1_moveOnce_18 (by decide) ?_
        refine lv_istore_n (lv' := [(3, .int 1), (0, .ref (q 13)), (1, .int x1_7), (2, .int x2_7)]) hx hb dX1_moveOnce_19 rfl hl (by decide) rfl (fun ls hl => ?_)
        exact HL20 _ 1 z_7 H locs ls k214a (iv_w (iv_lit (n := 1) 1 (by decide)) (by decide) (by decide)) k214b hJ hH (lv_sub hl [1, 2, 3, 0] rfl) rfl
  refine lv_aload_n hx hb dX1_moveOnce_0 rfl (lv_at hl 0 rfl) ?_
  refine b_calli (As := []) (rest := []) ⟨hx, hb, hml, hown, hts⟩ 13 1 (g_X1_greatest_13 l D cy q hH.2.1 z0 hJ.1 ) (cwV 0 hts gX1_moveOnce_X1_greatest rfl rfl rfl (by decide +kernel) ⟨Nat.le_of_ble_eq_true rfl, Nat.le_of_ble_eq_true rfl⟩) hK hZ hH (by decide) rfl rfl rfl hl.1 rfl (Nat.le_of_ble_eq_true rfl) ⟨Nat.zero_le _, Nat.zero_le _⟩ dX1_moveOnce_1 (fun w215 z215 H locs hp hH => ?_)
  rw [Ag_0 hp.1.2] at hH
  have i215 := hp.2
  refine lv_istore_n (lv' := [(1, .int w215), (0, .ref (q 13))]) hx hb dX1_moveOnce_4 rfl hl (by decide) rfl (fun ls hl => ?_)
  refine lv_iconst (v := 0) hx hb dX1_moveOnce_5 (by decide) ?_
  refine lv_istore_n (lv' := [(2, .int 0), (1, .int w215), (0, .ref (q 13))]) hx hb dX1_moveOnce_6 rfl hl (by decide) rfl (fun ls hl => ?_)
  exact HL7 _ w215 0 z0 H locs ls i215 (iv_w (iv_lit (n := 0) 0 (by decide)) (by decide) (by decide)) hJ hH (lv_sub hl [2, 1, 0] rfl) rfl
set_option maxHeartbeats 4000000 in
set_option maxRecDepth 100000 in
theorem g_J6_bitCount_0f7a4 (l : Launch) (D : va_G) (cy : Nat → ClassId) (q : Nat → Nat) (hq : bJ 66 q) (z0 : zS) (hI : IvC z0) (p0 : Int32) : bCi l yJ6_bitCount_0f7a4 wsJ6_bitCount_0f7a4 ({ frames := 0, cells := 0, slots := 0, locals := 0 }) D cy 66 (enC cy) q z0 [.int p0] (fun v z => jJ IvC 0 0 0 z0 z ∧ iv 0 63 v) := by
  refine hM_i cJ6_bitCount_0f7a4 (by decide) rfl (own := RJ6) rfl hq (Nat.le_of_ble_eq_true rfl) ?_
  intro p e s m args below meth c Q ls H locs hx hb hml hown hts hK hZ hH hl hret
  have hl : lv_has ls 1 [(0, .int p0)] := hl
  have hJ : jJ IvC 0 0 0 z0 z0 := jJ_rf _ _ _ hI
  refine lv_iload_n hx hb dJ6_bitCount_0f7a4_0 rfl (lv_at hl 0 rfl) ?_
  refine lv_iload_n hx hb dJ6_bitCount_0f7a4_1 rfl (lv_at hl 0 rfl) ?_
  refine lv_iconst (v := 1) hx hb dJ6_bitCount_0f7a4_2 (by decide) ?_
  refine lv_iushr hx hb dJ6_bitCount_0f7a4_3 rfl ?_
  refine lv_topi (fun w16 _ => ?_)
  refine lv_ldcw hx hb hown (hts (.constant RJ6 265 (1431655765)) (List.mem_of_getElem? (i := 1) rfl)) dJ6_bitCount_0f7a4_4 ?_
  refine lv_iand hx hb dJ6_bitCount_0f7a4_7 ?_
  refine h_i (a := 0) (b := 1431655765) (iv_and2 (iv_all w16) (iv_lit (n := 1431655765) 1431655765 (by decide)) (by decide) (by decide)) (fun w17 i17 => ?_)
  refine lv_isub hx hb dJ6_bitCount_0f7a4_8 ?_
  refine lv_topi (fun w18 _ => ?_)
  refine lv_istore_n (lv' := [(0, .int w18)]) hx hb dJ6_bitCount_0f7a4_9 rfl hl (by decide) rfl (fun ls hl => ?_)
  refine lv_iload_n hx hb dJ6_bitCount_0f7a4_10 rfl (lv_at hl 0 rfl) ?_
  refine lv_ldcw hx hb hown (hts (.constant RJ6 266 (858993459)) (List.mem_of_getElem? (i := 2) rfl)) dJ6_bitCount_0f7a4_11 ?_
  refine lv_iand hx hb dJ6_bitCount_0f7a4_14 ?_
  refine h_i (a := 0) (b := 858993459) (iv_and2 (iv_all w18) (iv_lit (n := 858993459) 858993459 (by decide)) (by decide) (by decide)) (fun w19 i19 => ?_)
  refine lv_iload_n hx hb dJ6_bitCount_0f7a4_15 rfl (lv_at hl 0 rfl) ?_
  refine lv_iconst (v := 2) hx hb dJ6_bitCount_0f7a4_16 (by decide) ?_
  refine lv_iushr hx hb dJ6_bitCount_0f7a4_17 rfl ?_
  refine lv_topi (fun w20 _ => ?_)
  refine lv_ldcw hx hb hown (hts (.constant RJ6 266 (858993459)) (List.mem_of_getElem? (i := 2) rfl)) dJ6_bitCount_0f7a4_18 ?_
  refine lv_iand hx hb dJ6_bitCount_0f7a4_21 ?_
  refine h_i (a := 0) (b := 858993459) (iv_and2 (iv_all w20) (iv_lit (n := 858993459) 858993459 (by decide)) (by decide) (by decide)) (fun w21 i21 => ?_)
  refine lv_iadd hx hb dJ6_bitCount_0f7a4_22 ?_
  refine h_i (a := 0) (b := 1717986918) (iv_add i19 i21 (by decide) (by decide) (by decide) (by decide)) (fun w22 i22 => ?_)
  refine lv_istore_n (lv' := [(0, .int w22)]) hx hb dJ6_bitCount_0f7a4_23 rfl hl (by decide) rfl (fun ls hl => ?_)
  refine lv_iload_n hx hb dJ6_bitCount_0f7a4_24 rfl (lv_at hl 0 rfl) ?_
  refine lv_iload_n hx hb dJ6_bitCount_0f7a4_25 rfl (lv_at hl 0 rfl) ?_
  refine lv_iconst (v := 4) hx hb dJ6_bitCount_0f7a4_26 (by decide) ?_
  refine lv_iushr hx hb dJ6_bitCount_0f7a4_27 rfl ?_
  refine lv_topi (fun w23 _ => ?_)
  refine lv_iadd hx hb dJ6_bitCount_0f7a4_28 ?_
  refine lv_topi (fun w24 _ => ?_)
  refine lv_ldcw hx hb hown (hts (.constant RJ6 267 (252645135)) (List.mem_of_getElem? (i := 3) rfl)) dJ6_bitCount_0f7a4_29 ?_
  refine lv_iand hx hb dJ6_bitCount_0f7a4_32 ?_
  refine h_i (a := 0) (b := 252645135) (iv_and2 (iv_all w24) (iv_lit (n := 252645135) 252645135 (by decide)) (by decide) (by decide)) (fun w25 i25 => ?_)
  refine lv_istore_n (lv' := [(0, .int w25)]) hx hb dJ6_bitCount_0f7a4_33 rfl hl (by decide) rfl (fun ls hl => ?_)
  refine lv_iload_n hx hb dJ6_bitCount_0f7a4_34 rfl (lv_at hl 0 rfl) ?_
  refine lv_iload_n hx hb dJ6_bitCount_0f7a4_35 rfl (lv_at hl 0 rfl) ?_
  refine lv_bipush (v := 8) hx hb dJ6_bitCount_0f7a4_36 (by decide) ?_
  refine lv_iushr hx hb dJ6_bitCount_0f7a4_38 rfl ?_
  refine lv_topi (fun w26 _ => ?_)
  refine lv_iadd hx hb dJ6_bitCount_0f7a4_39 ?_
  refine lv_topi (fun w27 _ => ?_)
  refine lv_istore_n (lv' := [(0, .int w27)]) hx hb dJ6_bitCount_0f7a4_40 rfl hl (by decide) rfl (fun ls hl => ?_)
  refine lv_iload_n hx hb dJ6_bitCount_0f7a4_41 rfl (lv_at hl 0 rfl) ?_
  refine lv_iload_n hx hb dJ6_bitCount_0f7a4_42 rfl (lv_at hl 0 rfl) ?_
  refine lv_bipush (v := 16) hx hb dJ6_bitCount_0f7a4_43 (by decide) ?_
  refine lv_iushr hx hb dJ6_bitCount_0f7a4_45 rfl ?_
  refine lv_topi (fun w28 _ => ?_)
  refine lv_iadd hx hb dJ6_bitCount_0f7a4_46 ?_
  refine lv_topi (fun w29 _ => ?_)
  refine lv_istore_n (lv' := [(0, .int w29)]) hx hb dJ6_bitCount_0f7a4_47 rfl hl (by decide) rfl (fun ls hl => ?_)
  refine lv_iload_n hx hb dJ6_bitCount_0f7a4_48 rfl (lv_at hl 0 rfl) ?_
  refine lv_bipush (v := 63) hx hb dJ6_bitCount_0f7a4_49 (by decide) ?_
  refine lv_iand hx hb dJ6_bitCount_0f7a4_51 ?_
  refine h_i (a := 0) (b := 63) (iv_and2 (iv_all w29) (iv_lit (n := 63) 63 (by decide)) (by decide) (by decide)) (fun w30 i30 => ?_)
  exact hret _ z0 H locs _ _ ⟨hJ, i30⟩ hH dJ6_bitCount_0f7a4_52
set_option maxHeartbeats 4000000 in
set_option maxRecDepth 100000 in
theorem g_X1_someTaskIsTooMuch_55 (l : Launch) (D : va_G) (cy : Nat → ClassId) (q : Nat → Nat) (hq : bJ 66 q) (z0 : zS) (hI : IvC z0)  : bCi l yX1_someTaskIsTooMuch wsX1_someTaskIsTooMuch ({ frames := 3, cells := 0, slots := 0, locals := 74 }) D cy 66 (enC cy) q z0 [.ref (q 55)] (fun v z => jJ IvC 0 0 0 z0 z ∧ iv 0 1 v) := by
  refine hM_z cX1_someTaskIsTooMuch (by decide) rfl (own := RX1) rfl hq (Nat.le_of_ble_eq_true rfl) ?_
  intro p e s m args below meth c Q ls H locs hx hb hml hown hts hK hZ hH hl hret
  have hl : lv_has ls 2 [(0, .ref (q 55))] := hl
  have hJ : jJ IvC 0 0 0 z0 z0 := jJ_rf _ _ _ hI
  have HL2 : ∀ (n : Nat) (x1_2 : Int32) (H : Heap) (locs : List Loc) (ls : Array Slot), iv 0 10 x1_2 → bH D 66 (enC cy) q z0 s.heap H locs → lv_has ls 2 [(0, .ref (q 55)), (1, .int x1_2)] → (10 - x1_2.toInt).toNat = n → W p l e ({ frames := 3, cells := 0, slots := 0, locals := 74 }) s m args below meth c H locs 0 0 Q (F0 m 2 ls []) := by
    intro n2
    induction n2 using Nat.strongRecOn with
    | ind n2 ih2 =>
      intro x1_2 H locs ls h1_2 hH hl hn2
      refine lv_iload_n hx hb dX1_someTaskIsTooMuch_2 rfl (lv_at hl 1 rfl) ?_
      refine lv_aload_n hx hb dX1_someTaskIsTooMuch_3 rfl (lv_at hl 0 rfl) ?_
      refine b_get (ci := 1) (C := RX1) (T := TX1) (Nf := 2) (v := .ref (q 1)) hx hb hts in_X1_someTaskIsTooMuch_X1 hown hK hH 55 (by decide) rfl rfl 0 (by decide) (hts (.fieldLink RX1 15 "StationLine$Putting" "bench" "LStationLine$Bench;") (List.mem_of_getElem? (i := 1) rfl)) rfl dX1_someTaskIsTooMuch_4 ?_
      refine b_get (ci := 0) (C := RX0) (T := TX0) (Nf := 11) (v := .int (z0.1 0)) hx hb hts in_X1_someTaskIsTooMuch_X0 hown hK hH 1 (by decide) rfl rfl 0 (by decide) (hts (.fieldLink RX1 25 "StationLine$Bench" "size" "I") (List.mem_of_getElem? (i := 2) rfl)) rfl dX1_someTaskIsTooMuch_7 ?_
      have i78 := IvC_s0 hJ.1
      refine lv_icmp_ge (tgt := 41) hx hb dX1_someTaskIsTooMuch_10 (by decide) (fun c79 => ?_) (fun c79 => ?_)
      · skip
        refine lv_iconst (v := 0) hx hb dX1_someTaskIsTooMuch_41 (by decide) ?_
        exact hret _ z0 H locs _ _ (iv_w (iv_lit (n := 0) 0 (by decide)) (by decide) (by decide)) ⟨hJ, (iv_w (iv_lit (n := 0) 0 (by decide)) (by decide) (by decide))⟩ hH dX1_someTaskIsTooMuch_42
      · skip
        have k81a : iv 0 9 x1_2 := iv_ltl (iv_nLe c79) h1_2 i78 (by decide)
        have k81b : iv 1 10 (z0.1 0) := iv_ltr (iv_nLe c79) h1_2 i78 (by decide)
        refine lv_aload_n hx hb dX1_someTaskIsTooMuch_13 rfl (lv_at hl 0 rfl) ?_
        refine b_get (ci := 1) (C := RX1) (T := TX1) (Nf := 2) (v := .ref (q 1)) hx hb hts in_X1_someTaskIsTooMuch_X1 hown hK hH 55 (by decide) rfl rfl 0 (by decide) (hts (.fieldLink RX1 15 "StationLine$Putting" "bench" "LStationLine$Bench;") (List.mem_of_getElem? (i := 1) rfl)) rfl dX1_someTaskIsTooMuch_14 ?_
        refine lv_iconst (v := 1) hx hb dX1_someTaskIsTooMuch_17 (by decide) ?_
        refine lv_iload_n hx hb dX1_someTaskIsTooMuch_18 rfl (lv_at hl 1 rfl) ?_
        refine lv_ishl hx hb dX1_someTaskIsTooMuch_19 ?_
        refine h_i (a := 1) (b := 512) (iv_bit k81a (by decide) (by decide)) (fun w82 i82 => ?_)
        refine b_calli (As := [.int w82]) (rest := []) ⟨hx, hb, hml, hown, hts⟩ 1 0 (g_X0_loadOf_1 l D cy q hH.2.1 z0 hJ.1 w82) (cwV 1 hts gX1_someTaskIsTooMuch_X0_loadOf rfl rfl rfl (by decide +kernel) ⟨Nat.le_of_ble_eq_true rfl, Nat.le_of_ble_eq_true rfl⟩) hK hZ hH (by decide) rfl rfl rfl hl.1 rfl (Nat.le_of_ble_eq_true rfl) ⟨Nat.zero_le _, Nat.zero_le _⟩ dX1_someTaskIsTooMuch_20 (fun w83 z83 H locs hp hH => ?_)
        rw [Ag_0 hp.1.2] at hH
        refine lv_aload_n hx hb dX1_someTaskIsTooMuch_23 rfl (lv_at hl 0 rfl) ?_
        refine b_get (ci := 1) (C := RX1) (T := TX1) (Nf := 2) (v := .ref (q 1)) hx hb hts in_X1_someTaskIsTooMuch_X1 hown hK hH 55 (by decide) rfl rfl 0 (by decide) (hts (.fieldLink RX1 15 "StationLine$Putting" "bench" "LStationLine$Bench;") (List.mem_of_getElem? (i := 1) rfl)) rfl dX1_someTaskIsTooMuch_24 ?_
        refine b_calli (As := []) (rest := [.int w83]) ⟨hx, hb, hml, hown, hts⟩ 1 0 (g_X0_room_1 l D cy q hH.2.1 z0 hJ.1 ) (cwV 0 hts gX1_someTaskIsTooMuch_X0_room rfl rfl rfl (by decide +kernel) ⟨Nat.le_of_ble_eq_true rfl, Nat.le_of_ble_eq_true rfl⟩) hK hZ hH (by decide) rfl rfl rfl hl.1 rfl (Nat.le_of_ble_eq_true rfl) ⟨Nat.zero_le _, Nat.zero_le _⟩ dX1_someTaskIsTooMuch_27 (fun w84 z84 H locs hp hH => ?_)
        rw [Ag_0 hp.1.2] at hH
        refine lv_icmp_le (tgt := 35) hx hb dX1_someTaskIsTooMuch_30 (by decide) (fun c85 => ?_) (fun c85 => ?_)
        · skip
          have j87 : iv 1 10 (x1_2 + 1) := iv_add k81a (iv_lit (n := 1) 1 (by decide)) (by decide) (by decide) (by decide) (by decide)
          have e87 : (x1_2 + 1).toInt = x1_2.toInt + 1 := (iv_addE k81a (iv_lit (n := 1) 1 (by decide)) (by decide) (by decide)).trans rfl
          refine lv_iinc (v := (x1_2 + 1)) (lv' := [(1, .int (x1_2 + 1)), (0, .ref (q 55))]) hx hb dX1_someTaskIsTooMuch_35 hl (k := 1) rfl rfl (by decide) rfl (fun ls hl => ?_)
          refine lv_goto (tgt := 2) hx hb dX1_someTaskIsTooMuch_38 (by decide) ?_
          exact ih2 _ (ms_up e87 j87.2 hn2) (x1_2 + 1)  H locs ls (iv_w j87 (by decide) (by decide))  hH (lv_sub hl [1, 0] rfl) rfl
        · skip
          have k88a : iv (-2147483648) 2147483646 w84 := iv_ltl (iv_nLe c85) (iv_all w84) (iv_all w83) (by decide)
          have k88b : iv (-2147483647) 2147483647 w83 := iv_ltr (iv_nLe c85) (iv_all w84) (iv_all w83) (by decide)
          refine lv_iconst (v := 1) hx hb dX1_someTaskIsTooMuch_33 (by decide) ?_
          exact hret _ z0 H locs _ _ (iv_w (iv_lit (n := 1) 1 (by decide)) (by decide) (by decide)) ⟨hJ, (iv_w (iv_lit (n := 1) 1 (by decide)) (by decide) (by decide))⟩ hH dX1_someTaskIsTooMuch_34
  refine lv_iconst (v := 0) hx hb dX1_someTaskIsTooMuch_0 (by decide) ?_
  refine lv_istore_n (lv' := [(1, .int 0), (0, .ref (q 55))]) hx hb dX1_someTaskIsTooMuch_1 rfl hl (by decide) rfl (fun ls hl => ?_)
  exact HL2 _ 0  H locs ls (iv_w (iv_lit (n := 0) 0 (by decide)) (by decide) (by decide))  hH (lv_sub hl [1, 0] rfl) rfl
set_option maxHeartbeats 4000000 in
set_option maxRecDepth 100000 in
theorem g_X1_worthByRule_55 (l : Launch) (D : va_G) (cy : Nat → ClassId) (q : Nat → Nat) (hq : bJ 66 q) (z0 : zS) (hI : IvC z0) (p0 : Int32) (p1 : Int32) (hp1 : iv 0 9 p1) : bCi l yX1_worthByRule wsX1_worthByRule ({ frames := 3, cells := 0, slots := 0, locals := 74 }) D cy 66 (enC cy) q z0 [.ref (q 55), .int p0, .int p1] (fun v z => jJ IvC 0 0 0 z0 z ∧ iv (-2147483648) 2147483647 v) := by
  refine hM_i cX1_worthByRule (by decide) rfl (own := RX1) rfl hq (Nat.le_of_ble_eq_true rfl) ?_
  intro p e s m args below meth c Q ls H locs hx hb hml hown hts hK hZ hH hl hret
  have hl : lv_has ls 3 [(0, .ref (q 55)), (1, .int p0), (2, .int p1)] := hl
  have hJ : jJ IvC 0 0 0 z0 z0 := jJ_rf _ _ _ hI
  refine lv_iload_n hx hb dX1_worthByRule_0 rfl (lv_at hl 1 rfl) ?_
  rcases (show (p0.toInt < 0 ∨ 2 < p0.toInt) ∨ (¬ p0.toInt < 0 ∧ ¬ 2 < p0.toInt) by omega) with h9 | h9
  · refine lv_tableOut (tgt := 73) hx hb dX1_worthByRule_1 h9 (by decide) ?_
    refine lv_iload_n hx hb dX1_worthByRule_73 rfl (lv_at hl 2 rfl) ?_
    refine lv_ineg hx hb dX1_worthByRule_74 ?_
    refine lv_topi (fun w10 _ => ?_)
    exact hret _ z0 H locs _ _ ⟨hJ, (iv_all w10)⟩ hH dX1_worthByRule_75
  · rcases (show p0.toInt = 0 ∨ p0.toInt = 1 ∨ p0.toInt = 2 by omega) with e9 | e9 | e9
    · refine lv_tableIn (off := 27) (tgt := 28) hx hb dX1_worthByRule_1 h9.1 h9.2 (by rw [e9]; rfl) (by decide) ?_
      have k9 : iv 0 0 p0 := iv_lit p0 e9
      refine lv_aload_n hx hb dX1_worthByRule_28 rfl (lv_at hl 0 rfl) ?_
      refine b_get (ci := 1) (C := RX1) (T := TX1) (Nf := 2) (v := .ref (q 1)) hx hb hts in_X1_worthByRule_X1 hown hK hH 55 (by decide) rfl rfl 0 (by decide) (hts (.fieldLink RX1 15 "StationLine$Putting" "bench" "LStationLine$Bench;") (List.mem_of_getElem? (i := 1) rfl)) rfl dX1_worthByRule_29 ?_
      refine lv_iconst (v := 1) hx hb dX1_worthByRule_32 (by decide) ?_
      refine lv_iload_n hx hb dX1_worthByRule_33 rfl (lv_at hl 2 rfl) ?_
      refine lv_ishl hx hb dX1_worthByRule_34 ?_
      refine h_i (a := 1) (b := 512) (iv_bit hp1 (by decide) (by decide)) (fun w11 i11 => ?_)
      refine b_calli (As := [.int w11]) (rest := []) ⟨hx, hb, hml, hown, hts⟩ 1 0 (g_X0_loadOf_1 l D cy q hH.2.1 z0 hJ.1 w11) (cwV 1 hts gX1_worthByRule_X0_loadOf rfl rfl rfl (by decide +kernel) ⟨Nat.le_of_ble_eq_true rfl, Nat.le_of_ble_eq_true rfl⟩) hK hZ hH (by decide) rfl rfl rfl hl.1 rfl (Nat.le_of_ble_eq_true rfl) ⟨Nat.zero_le _, Nat.zero_le _⟩ dX1_worthByRule_35 (fun w12 z12 H locs hp hH => ?_)
      rw [Ag_0 hp.1.2] at hH
      exact hret _ z0 H locs _ _ ⟨hJ, (iv_all w12)⟩ hH dX1_worthByRule_38
    · refine lv_tableIn (off := 38) (tgt := 39) hx hb dX1_worthByRule_1 h9.1 h9.2 (by rw [e9]; rfl) (by decide) ?_
      have k9 : iv 1 1 p0 := iv_lit p0 e9
      refine lv_aload_n hx hb dX1_worthByRule_39 rfl (lv_at hl 0 rfl) ?_
      refine b_get (ci := 1) (C := RX1) (T := TX1) (Nf := 2) (v := .ref (q 1)) hx hb hts in_X1_worthByRule_X1 hown hK hH 55 (by decide) rfl rfl 0 (by decide) (hts (.fieldLink RX1 15 "StationLine$Putting" "bench" "LStationLine$Bench;") (List.mem_of_getElem? (i := 1) rfl)) rfl dX1_worthByRule_40 ?_
      refine lv_iconst (v := 1) hx hb dX1_worthByRule_43 (by decide) ?_
      refine lv_iload_n hx hb dX1_worthByRule_44 rfl (lv_at hl 2 rfl) ?_
      refine lv_ishl hx hb dX1_worthByRule_45 ?_
      refine h_i (a := 1) (b := 512) (iv_bit hp1 (by decide) (by decide)) (fun w13 i13 => ?_)
      refine lv_aload_n hx hb dX1_worthByRule_46 rfl (lv_at hl 0 rfl) ?_
      refine b_get (ci := 1) (C := RX1) (T := TX1) (Nf := 2) (v := .ref (q 1)) hx hb hts in_X1_worthByRule_X1 hown hK hH 55 (by decide) rfl rfl 0 (by decide) (hts (.fieldLink RX1 15 "StationLine$Putting" "bench" "LStationLine$Bench;") (List.mem_of_getElem? (i := 1) rfl)) rfl dX1_worthByRule_47 ?_
      refine b_get (ci := 0) (C := RX0) (T := TX0) (Nf := 11) (v := .ref (q 9)) hx hb hts in_X1_worthByRule_X0 hown hK hH 1 (by decide) rfl rfl 7 (by decide) (hts (.fieldLink RX1 100 "StationLine$Bench" "following" "[I") (List.mem_of_getElem? (i := 2) rfl)) rfl dX1_worthByRule_50 ?_
      refine lv_iload_n hx hb dX1_worthByRule_53 rfl (lv_at hl 2 rfl) ?_
      refine b_iald (v := z0.2.1 9 (p1 : Int32).toNatClampNeg) hx hb hK hH 9 (by decide) rfl (iv_in hp1 (by decide) (by decide)) rfl dX1_worthByRule_54 ?_
      refine lv_ior hx hb dX1_worthByRule_55 ?_
      refine lv_topi (fun w14 _ => ?_)
      refine b_calli (As := [.int w14]) (rest := []) ⟨hx, hb, hml, hown, hts⟩ 1 0 (g_X0_loadOf_1 l D cy q hH.2.1 z0 hJ.1 w14) (cwV 1 hts gX1_worthByRule_X0_loadOf rfl rfl rfl (by decide +kernel) ⟨Nat.le_of_ble_eq_true rfl, Nat.le_of_ble_eq_true rfl⟩) hK hZ hH (by decide) rfl rfl rfl hl.1 rfl (Nat.le_of_ble_eq_true rfl) ⟨Nat.zero_le _, Nat.zero_le _⟩ dX1_worthByRule_56 (fun w15 z15 H locs hp hH => ?_)
      rw [Ag_0 hp.1.2] at hH
      exact hret _ z0 H locs _ _ ⟨hJ, (iv_all w15)⟩ hH dX1_worthByRule_59
    · refine lv_tableIn (off := 59) (tgt := 60) hx hb dX1_worthByRule_1 h9.1 h9.2 (by rw [e9]; rfl) (by decide) ?_
      have k9 : iv 2 2 p0 := iv_lit p0 e9
      refine lv_aload_n hx hb dX1_worthByRule_60 rfl (lv_at hl 0 rfl) ?_
      refine b_get (ci := 1) (C := RX1) (T := TX1) (Nf := 2) (v := .ref (q 1)) hx hb hts in_X1_worthByRule_X1 hown hK hH 55 (by decide) rfl rfl 0 (by decide) (hts (.fieldLink RX1 15 "StationLine$Putting" "bench" "LStationLine$Bench;") (List.mem_of_getElem? (i := 1) rfl)) rfl dX1_worthByRule_61 ?_
      refine b_get (ci := 0) (C := RX0) (T := TX0) (Nf := 11) (v := .ref (q 9)) hx hb hts in_X1_worthByRule_X0 hown hK hH 1 (by decide) rfl rfl 7 (by decide) (hts (.fieldLink RX1 100 "StationLine$Bench" "following" "[I") (List.mem_of_getElem? (i := 2) rfl)) rfl dX1_worthByRule_64 ?_
      refine lv_iload_n hx hb dX1_worthByRule_67 rfl (lv_at hl 2 rfl) ?_
      refine b_iald (v := z0.2.1 9 (p1 : Int32).toNatClampNeg) hx hb hK hH 9 (by decide) rfl (iv_in hp1 (by decide) (by decide)) rfl dX1_worthByRule_68 ?_
      refine b_stati (As := [.int (z0.2.1 9 (p1 : Int32).toNatClampNeg)]) (rest := []) ⟨hx, hb, hml, hown, hts⟩ (g_J6_bitCount_0f7a4 l D cy q hH.2.1 z0 hJ.1 (z0.2.1 9 (p1 : Int32).toNatClampNeg)) (va_cwS 1 hts gX1_worthByRule_J6_bitCount_0f7a4 rfl rfl rfl (by decide +kernel) ⟨Nat.le_of_ble_eq_true rfl, Nat.le_of_ble_eq_true rfl⟩) hK hZ hH rfl hl.1 rfl (Nat.le_of_ble_eq_true rfl) ⟨Nat.zero_le _, Nat.zero_le _⟩ dX1_worthByRule_69 (fun w16 z16 H locs hp hH => ?_)
      rw [Ag_0 hp.1.2] at hH
      have i16 := hp.2
      exact hret _ z0 H locs _ _ ⟨hJ, (iv_w i16 (by decide) (by decide))⟩ hH dX1_worthByRule_72
set_option maxHeartbeats 4000000 in
set_option maxRecDepth 100000 in
theorem g_X1_firstByRule_55 (l : Launch) (D : va_G) (cy : Nat → ClassId) (q : Nat → Nat) (hq : bJ 66 q) (z0 : zS) (hI : IvC z0) (p0 : Int32) (p1 : Int32) (p2 : Int32) : bCi l yX1_firstByRule wsX1_firstByRule ({ frames := 4, cells := 0, slots := 0, locals := 96 }) D cy 66 (enC cy) q z0 [.ref (q 55), .int p0, .int p1, .int p2] (fun v z => jJ IvC 0 0 0 z0 z ∧ iv (-1) 9 v) := by
  refine hM_i cX1_firstByRule (by decide) rfl (own := RX1) rfl hq (Nat.le_of_ble_eq_true rfl) ?_
  intro p e s m args below meth c Q ls H locs hx hb hml hown hts hK hZ hH hl hret
  have hl : lv_has ls 9 [(0, .ref (q 55)), (1, .int p0), (2, .int p1), (3, .int p2)] := hl
  have hJ : jJ IvC 0 0 0 z0 z0 := jJ_rf _ _ _ hI
  have HL9 : ∀ (n : Nat) (x4_9 : Int32) (x5_9 : Int32) (x6_9 : Int32) (H : Heap) (locs : List Loc) (ls : Array Slot), iv (-1) 9 x4_9 → iv 0 10 x6_9 → bH D 66 (enC cy) q z0 s.heap H locs → lv_has ls 9 [(0, .ref (q 55)), (1, .int p0), (2, .int p1), (3, .int p2), (4, .int x4_9), (5, .int x5_9), (6, .int x6_9)] → (10 - x6_9.toInt).toNat = n → W p l e ({ frames := 4, cells := 0, slots := 0, locals := 96 }) s m args below meth c H locs 0 0 Q (F0 m 9 ls []) := by
    intro n9
    induction n9 using Nat.strongRecOn with
    | ind n9 ih9 =>
      intro x4_9 x5_9 x6_9 H locs ls h4_9 h6_9 hH hl hn9
      have HJ100 : ∀ (x4_100 : Int32) (x5_100 : Int32) (H : Heap) (locs : List Loc) (ls : Array Slot), iv (-1) 9 x4_100 → iv 0 9 x6_9 → iv 1 10 (z0.1 0) → bH D 66 (enC cy) q z0 s.heap H locs → lv_has ls 9 [(0, .ref (q 55)), (1, .int p0), (2, .int p1), (3, .int p2), (4, .int x4_100), (5, .int x5_100), (6, .int x6_9)] → W p l e ({ frames := 4, cells := 0, slots := 0, locals := 96 }) s m args below meth c H locs 0 0 Q (F0 m 100 ls []) := by
        intro x4_100 x5_100 H locs ls h4_100 h6_100 gh0_100 hH hl
        have j191 : iv 1 10 (x6_9 + 1) := iv_add h6_100 (iv_lit (n := 1) 1 (by decide)) (by decide) (by decide) (by decide) (by decide)
        have e191 : (x6_9 + 1).toInt = x6_9.toInt + 1 := (iv_addE h6_100 (iv_lit (n := 1) 1 (by decide)) (by decide) (by decide)).trans rfl
        refine lv_iinc (v := (x6_9 + 1)) (lv' := [(6, .int (x6_9 + 1)), (0, .ref (q 55)), (1, .int p0), (2, .int p1), (3, .int p2), (4, .int x4_100), (5, .int x5_100)]) hx hb dX1_firstByRule_100 hl (k := 6) rfl rfl (by decide) rfl (fun ls hl => ?_)
        refine lv_goto (tgt := 9) hx hb dX1_firstByRule_103 (by decide) ?_
        exact ih9 _ (ms_up e191 j191.2 hn9) x4_100 x5_100 (x6_9 + 1)  H locs ls h4_100 (iv_w j191 (by decide) (by decide))  hH (lv_sub hl [1, 2, 3, 4, 5, 6, 0] rfl) rfl
      have HJ92 : ∀ (x8_92 : Int32) (H : Heap) (locs : List Loc) (ls : Array Slot), iv 0 9 x6_9 → iv 1 10 (z0.1 0) → bH D 66 (enC cy) q z0 s.heap H locs → lv_has ls 9 [(0, .ref (q 55)), (1, .int p0), (2, .int p1), (3, .int p2), (6, .int x6_9), (8, .int x8_92)] → W p l e ({ frames := 4, cells := 0, slots := 0, locals := 96 }) s m args below meth c H locs 0 0 Q (F0 m 92 ls []) := by
        intro x8_92 H locs ls h6_92 gh0_92 hH hl
        refine lv_iload hx hb dX1_firstByRule_92 (lv_at hl 4 rfl) ?_
        refine lv_istore (lv' := [(4, .int x6_9), (0, .ref (q 55)), (1, .int p0), (2, .int p1), (3, .int p2), (6, .int x6_9), (8, .int x8_92)]) hx hb dX1_firstByRule_94 hl (by decide) rfl (fun ls hl => ?_)
        refine lv_iload hx hb dX1_firstByRule_96 (lv_at hl 6 rfl) ?_
        refine lv_istore (lv' := [(5, .int x8_92), (4, .int x6_9), (0, .ref (q 55)), (1, .int p0), (2, .int p1), (3, .int p2), (6, .int x6_9), (8, .int x8_92)]) hx hb dX1_firstByRule_98 hl (by decide) rfl (fun ls hl => ?_)
        exact HJ100 x6_9 x8_92  H locs ls (iv_w h6_92 (by decide) (by decide)) h6_92 gh0_92  hH (lv_sub hl [2, 3, 4, 5, 1, 0, 6] rfl)
      refine lv_iload hx hb dX1_firstByRule_9 (lv_at hl 6 rfl) ?_
      refine lv_aload_n hx hb dX1_firstByRule_11 rfl (lv_at hl 0 rfl) ?_
      refine b_get (ci := 1) (C := RX1) (T := TX1) (Nf := 2) (v := .ref (q 1)) hx hb hts in_X1_firstByRule_X1 hown hK hH 55 (by decide) rfl rfl 0 (by decide) (hts (.fieldLink RX1 15 "StationLine$Putting" "bench" "LStationLine$Bench;") (List.mem_of_getElem? (i := 1) rfl)) rfl dX1_firstByRule_12 ?_
      refine b_get (ci := 0) (C := RX0) (T := TX0) (Nf := 11) (v := .int (z0.1 0)) hx hb hts in_X1_firstByRule_X0 hown hK hH 1 (by decide) rfl rfl 0 (by decide) (hts (.fieldLink RX1 25 "StationLine$Bench" "size" "I") (List.mem_of_getElem? (i := 2) rfl)) rfl dX1_firstByRule_15 ?_
      have i192 := IvC_s0 hJ.1
      refine lv_icmp_ge (tgt := 106) hx hb dX1_firstByRule_18 (by decide) (fun c193 => ?_) (fun c193 => ?_)
      · skip
        refine lv_iload hx hb dX1_firstByRule_106 (lv_at hl 4 rfl) ?_
        exact hret _ z0 H locs _ _ ⟨hJ, h4_9⟩ hH dX1_firstByRule_108
      · skip
        have k195a : iv 0 9 x6_9 := iv_ltl (iv_nLe c193) h6_9 i192 (by decide)
        have k195b : iv 1 10 (z0.1 0) := iv_ltr (iv_nLe c193) h6_9 i192 (by decide)
        refine lv_iconst (v := 1) hx hb dX1_firstByRule_21 (by decide) ?_
        refine lv_iload hx hb dX1_firstByRule_22 (lv_at hl 6 rfl) ?_
        refine lv_ishl hx hb dX1_firstByRule_24 ?_
        refine h_i (a := 1) (b := 512) (iv_bit k195a (by decide) (by decide)) (fun w196 i196 => ?_)
        refine lv_istore (lv' := [(7, .int w196), (0, .ref (q 55)), (1, .int p0), (2, .int p1), (3, .int p2), (4, .int x4_9), (5, .int x5_9), (6, .int x6_9)]) hx hb dX1_firstByRule_25 hl (by decide) rfl (fun ls hl => ?_)
        refine lv_iload_n hx hb dX1_firstByRule_27 rfl (lv_at hl 3 rfl) ?_
        refine lv_iload hx hb dX1_firstByRule_28 (lv_at hl 0 rfl) ?_
        refine lv_iand hx hb dX1_firstByRule_30 ?_
        refine h_i (a := 0) (b := 512) (iv_and2 (iv_all p1) i196 (by decide) (by decide)) (fun w197 i197 => ?_)
        refine lv_if_ne (tgt := 100) hx hb dX1_firstByRule_31 (by decide) (fun c198 => ?_) (fun c198 => ?_)
        · skip
          have k199a : iv 1 512 w197 := iv_neLo (iv_nEq c198) i197 (by decide) (by decide)
          exact HJ100 x4_9 x5_9  H locs ls h4_9 k195a k195b  hH (lv_sub hl [1, 2, 3, 4, 5, 6, 7] rfl)
        · skip
          have k200a : iv 0 0 w197 := iv_eql (iv_Eq c198) i197 (iv_lit (n := 0) 0 (by decide)) (by decide) (by decide)
          refine lv_aload_n hx hb dX1_firstByRule_34 rfl (lv_at hl 1 rfl) ?_
          refine b_get (ci := 1) (C := RX1) (T := TX1) (Nf := 2) (v := .ref (q 1)) hx hb hts in_X1_firstByRule_X1 hown hK hH 55 (by decide) rfl rfl 0 (by decide) (hts (.fieldLink RX1 15 "StationLine$Putting" "bench" "LStationLine$Bench;") (List.mem_of_getElem? (i := 1) rfl)) rfl dX1_firstByRule_35 ?_
          refine lv_iload hx hb dX1_firstByRule_38 (lv_at hl 7 rfl) ?_
          refine lv_iload_n hx hb dX1_firstByRule_40 rfl (lv_at hl 3 rfl) ?_
          refine b_calli (As := [.int x6_9, .int p1]) (rest := []) ⟨hx, hb, hml, hown, hts⟩ 1 0 (g_X0_isOpen_1 l D cy q hH.2.1 z0 hJ.1 x6_9 k195a p1) (cwV 2 hts gX1_firstByRule_X0_isOpen rfl rfl rfl (by decide +kernel) ⟨Nat.le_of_ble_eq_true rfl, Nat.le_of_ble_eq_true rfl⟩) hK hZ hH (by decide) rfl rfl rfl hl.1 rfl (Nat.le_of_ble_eq_true rfl) ⟨Nat.zero_le _, Nat.zero_le _⟩ dX1_firstByRule_41 (fun w201 z201 H locs hp hH => ?_)
          rw [Ag_0 hp.1.2] at hH
          have i201 := hp.2
          refine lv_if_eq (tgt := 100) hx hb dX1_firstByRule_44 (by decide) (fun c202 => ?_) (fun c202 => ?_)
          · skip
            have k203a : iv 0 0 w201 := iv_eql (iv_Eq c202) i201 (iv_lit (n := 0) 0 (by decide)) (by decide) (by decide)
            exact HJ100 x4_9 x5_9  H locs ls h4_9 k195a k195b  hH (lv_sub hl [1, 2, 3, 4, 5, 6, 7] rfl)
          · skip
            have k204a : iv 1 1 w201 := iv_neLo (iv_nEq c202) i201 (by decide) (by decide)
            refine lv_aload_n hx hb dX1_firstByRule_47 rfl (lv_at hl 1 rfl) ?_
            refine b_get (ci := 1) (C := RX1) (T := TX1) (Nf := 2) (v := .ref (q 1)) hx hb hts in_X1_firstByRule_X1 hown hK hH 55 (by decide) rfl rfl 0 (by decide) (hts (.fieldLink RX1 15 "StationLine$Putting" "bench" "LStationLine$Bench;") (List.mem_of_getElem? (i := 1) rfl)) rfl dX1_firstByRule_48 ?_
            refine lv_iload_n hx hb dX1_firstByRule_51 rfl (lv_at hl 4 rfl) ?_
            refine lv_iload hx hb dX1_firstByRule_52 (lv_at hl 0 rfl) ?_
            refine lv_ior hx hb dX1_firstByRule_54 ?_
            refine lv_topi (fun w205 _ => ?_)
            refine b_calli (As := [.int w205]) (rest := []) ⟨hx, hb, hml, hown, hts⟩ 1 0 (g_X0_loadOf_1 l D cy q hH.2.1 z0 hJ.1 w205) (cwV 1 hts gX1_firstByRule_X0_loadOf rfl rfl rfl (by decide +kernel) ⟨Nat.le_of_ble_eq_true rfl, Nat.le_of_ble_eq_true rfl⟩) hK hZ hH (by decide) rfl rfl rfl hl.1 rfl (Nat.le_of_ble_eq_true rfl) ⟨Nat.zero_le _, Nat.zero_le _⟩ dX1_firstByRule_55 (fun w206 z206 H locs hp hH => ?_)
            rw [Ag_0 hp.1.2] at hH
            refine lv_aload_n hx hb dX1_firstByRule_58 rfl (lv_at hl 1 rfl) ?_
            refine b_get (ci := 1) (C := RX1) (T := TX1) (Nf := 2) (v := .ref (q 1)) hx hb hts in_X1_firstByRule_X1 hown hK hH 55 (by decide) rfl rfl 0 (by decide) (hts (.fieldLink RX1 15 "StationLine$Putting" "bench" "LStationLine$Bench;") (List.mem_of_getElem? (i := 1) rfl)) rfl dX1_firstByRule_59 ?_
            refine b_calli (As := []) (rest := [.int w206]) ⟨hx, hb, hml, hown, hts⟩ 1 0 (g_X0_room_1 l D cy q hH.2.1 z0 hJ.1 ) (cwV 0 hts gX1_firstByRule_X0_room rfl rfl rfl (by decide +kernel) ⟨Nat.le_of_ble_eq_true rfl, Nat.le_of_ble_eq_true rfl⟩) hK hZ hH (by decide) rfl rfl rfl hl.1 rfl (Nat.le_of_ble_eq_true rfl) ⟨Nat.zero_le _, Nat.zero_le _⟩ dX1_firstByRule_62 (fun w207 z207 H locs hp hH => ?_)
            rw [Ag_0 hp.1.2] at hH
            refine lv_icmp_le (tgt := 71) hx hb dX1_firstByRule_65 (by decide) (fun c208 => ?_) (fun c208 => ?_)
            · skip
              refine lv_aload_n hx hb dX1_firstByRule_71 rfl (lv_at hl 1 rfl) ?_
              refine lv_iload_n hx hb dX1_firstByRule_72 rfl (lv_at hl 2 rfl) ?_
              refine lv_iload hx hb dX1_firstByRule_73 (lv_at hl 7 rfl) ?_
              refine b_calli (As := [.int p0, .int x6_9]) (rest := []) ⟨hx, hb, hml, hown, hts⟩ 55 1 (g_X1_worthByRule_55 l D cy q hH.2.1 z0 hJ.1 p0 x6_9 k195a) (cwV 2 hts gX1_firstByRule_X1_worthByRule rfl rfl rfl (by decide +kernel) ⟨Nat.le_of_ble_eq_true rfl, Nat.le_of_ble_eq_true rfl⟩) hK hZ hH (by decide) rfl rfl rfl hl.1 rfl (Nat.le_of_ble_eq_true rfl) ⟨Nat.zero_le _, Nat.zero_le _⟩ dX1_firstByRule_75 (fun w210 z210 H locs hp hH => ?_)
              rw [Ag_0 hp.1.2] at hH
              refine lv_istore (lv' := [(8, .int w210), (7, .int w196), (0, .ref (q 55)), (1, .int p0), (2, .int p1), (3, .int p2), (4, .int x4_9), (5, .int x5_9), (6, .int x6_9)]) hx hb dX1_firstByRule_78 hl (by decide) rfl (fun ls hl => ?_)
              refine lv_iload hx hb dX1_firstByRule_80 (lv_at hl 6 rfl) ?_
              refine lv_if_lt (tgt := 92) hx hb dX1_firstByRule_82 (by decide) (fun c211 => ?_) (fun c211 => ?_)
              · skip
                have k212a : iv (-1) (-1) x4_9 := iv_ltl (iv_Lt c211) h4_9 (iv_lit (n := 0) 0 (by decide)) (by decide)
                exact HJ92 w210  H locs ls k195a k195b  hH (lv_sub hl [2, 3, 4, 5, 8, 0] rfl)
              · skip
                have k213b : iv 0 9 x4_9 := iv_ler (iv_nLt c211) (iv_lit (n := 0) 0 (by decide)) h4_9
                refine lv_iload hx hb dX1_firstByRule_85 (lv_at hl 0 rfl) ?_
                refine lv_iload hx hb dX1_firstByRule_87 (lv_at hl 7 rfl) ?_
                refine lv_icmp_le (tgt := 100) hx hb dX1_firstByRule_89 (by decide) (fun c214 => ?_) (fun c214 => ?_)
                · skip
                  exact HJ100 x4_9 x5_9  H locs ls (iv_w k213b (by decide) (by decide)) k195a k195b  hH (lv_sub hl [2, 3, 4, 5, 6, 7, 8] rfl)
                · skip
                  have k216a : iv (-2147483648) 2147483646 x5_9 := iv_ltl (iv_nLe c214) (iv_all x5_9) (iv_all w210) (by decide)
                  have k216b : iv (-2147483647) 2147483647 w210 := iv_ltr (iv_nLe c214) (iv_all x5_9) (iv_all w210) (by decide)
                  exact HJ92 w210  H locs ls k195a k195b  hH (lv_sub hl [2, 3, 4, 5, 8, 0] rfl)
            · skip
              have k217a : iv (-2147483648) 2147483646 w207 := iv_ltl (iv_nLe c208) (iv_all w207) (iv_all w206) (by decide)
              have k217b : iv (-2147483647) 2147483647 w206 := iv_ltr (iv_nLe c208) (iv_all w207) (iv_all w206) (by decide)
              refine lv_goto (tgt := 100) hx hb dX1_firstByRule_68 (by decide) ?_
              exact HJ100 x4_9 x5_9  H locs ls h4_9 k195a k195b  hH (lv_sub hl [1, 2, 3, 4, 5, 6, 7] rfl)
  refine lv_iconst (v := (-1)) hx hb dX1_firstByRule_0 (by decide) ?_
  refine lv_istore (lv' := [(4, .int (-1)), (0, .ref (q 55)), (1, .int p0), (2, .int p1), (3, .int p2)]) hx hb dX1_firstByRule_1 hl (by decide) rfl (fun ls hl => ?_)
  refine lv_iconst (v := 0) hx hb dX1_firstByRule_3 (by decide) ?_
  refine lv_istore (lv' := [(5, .int 0), (4, .int (-1)), (0, .ref (q 55)), (1, .int p0), (2, .int p1), (3, .int p2)]) hx hb dX1_firstByRule_4 hl (by decide) rfl (fun ls hl => ?_)
  refine lv_iconst (v := 0) hx hb dX1_firstByRule_6 (by decide) ?_
  refine lv_istore (lv' := [(6, .int 0), (5, .int 0), (4, .int (-1)), (0, .ref (q 55)), (1, .int p0), (2, .int p1), (3, .int p2)]) hx hb dX1_firstByRule_7 hl (by decide) rfl (fun ls hl => ?_)
  exact HL9 _ (-1) 0 0  H locs ls (iv_w (iv_lit (n := (-1)) (-1) (by decide)) (by decide) (by decide)) (iv_w (iv_lit (n := 0) 0 (by decide)) (by decide) (by decide))  hH (lv_sub hl [3, 4, 5, 6, 2, 1, 0] rfl) rfl
set_option maxHeartbeats 4000000 in
set_option maxRecDepth 100000 in
theorem g_X1_putByRule_55 (l : Launch) (D : va_G) (cy : Nat → ClassId) (q : Nat → Nat) (hq : bJ 66 q) (z0 : zS) (hI : IvC z0) (p0 : Int32) : bCi l yX1_putByRule wsX1_putByRule ({ frames := 5, cells := 0, slots := 0, locals := 124 }) D cy 66 (enC cy) q z0 [.ref (q 55), .int p0] (fun v z => jJ IvC 0 72057594037927936 0 z0 z ∧ iv 0 1 v) := by
  refine hM_z cX1_putByRule (by decide) rfl (own := RX1) rfl hq (Nat.le_of_ble_eq_true rfl) ?_
  intro p e s m args below meth c Q ls H locs hx hb hml hown hts hK hZ hH hl hret
  have hl : lv_has ls 7 [(0, .ref (q 55)), (1, .int p0)] := hl
  have hJ : jJ IvC 0 72057594037927936 0 z0 z0 := jJ_rf _ _ _ hI
  have HL27 : ∀ (n : Nat) (x2_27 : Int32) (x3_27 : Int32) (x4_27 : Int32) (x5_27 : Int32) (z_27 : zS) (H : Heap) (locs : List Loc) (ls : Array Slot), iv 0 1023 x2_27 → iv 0 1023 x3_27 → iv 1 10 x4_27 → iv 0 20 x5_27 → jJ IvC 0 72057594037927936 0 z0 z_27 → bH D 66 (enC cy) q z_27 s.heap H locs → lv_has ls 7 [(0, .ref (q 55)), (1, .int p0), (2, .int x2_27), (3, .int x3_27), (4, .int x4_27), (5, .int x5_27)] → (20 - x5_27.toInt).toNat = n → W p l e ({ frames := 5, cells := 0, slots := 0, locals := 124 }) s m args below meth c H locs 0 0 Q (F0 m 27 ls []) := by
    intro n27
    induction n27 using Nat.strongRecOn with
    | ind n27 ih27 =>
      intro x2_27 x3_27 x4_27 x5_27 z_27 H locs ls h2_27 h3_27 h4_27 h5_27 hJ hH hl hn27
      have HJ108 : ∀ (z_108 : zS) (H : Heap) (locs : List Loc) (ls : Array Slot), jJ IvC 0 72057594037927936 0 z0 z_108 → bH D 66 (enC cy) q z_108 s.heap H locs → lv_has ls 7 [(0, .ref (q 55)), (2, .int x2_27)] → W p l e ({ frames := 5, cells := 0, slots := 0, locals := 124 }) s m args below meth c H locs 0 0 Q (F0 m 108 ls []) := by
        intro z_108 H locs ls hJ hH hl
        refine lv_iload_n hx hb dX1_putByRule_108 rfl (lv_at hl 1 rfl) ?_
        refine lv_aload_n hx hb dX1_putByRule_109 rfl (lv_at hl 0 rfl) ?_
        refine b_get (ci := 1) (C := RX1) (T := TX1) (Nf := 2) (v := .ref (q 1)) hx hb hts in_X1_putByRule_X1 hown hK hH 55 (by decide) rfl rfl 0 (by decide) (hts (.fieldLink RX1 15 "StationLine$Putting" "bench" "LStationLine$Bench;") (List.mem_of_getElem? (i := 2) rfl)) rfl dX1_putByRule_110 ?_
        refine b_calli (As := []) (rest := [.int x2_27]) ⟨hx, hb, hml, hown, hts⟩ 1 0 (g_X0_all_1 l D cy q hH.2.1 z_108 hJ.1 ) (cwV 0 hts gX1_putByRule_X0_all rfl rfl rfl (by decide +kernel) ⟨Nat.le_of_ble_eq_true rfl, Nat.le_of_ble_eq_true rfl⟩) hK hZ hH (by decide) rfl rfl rfl hl.1 rfl (Nat.le_of_ble_eq_true rfl) ⟨Nat.zero_le _, Nat.zero_le _⟩ dX1_putByRule_113 (fun w210 z210 H locs hp hH => ?_)
        rw [Ag_0 hp.1.2] at hH
        have i210 := hp.2
        refine lv_icmp_ne (tgt := 123) hx hb dX1_putByRule_116 (by decide) (fun c211 => ?_) (fun c211 => ?_)
        · skip
          refine lv_iconst (v := 0) hx hb dX1_putByRule_123 (by decide) ?_
          exact hret _ z_108 H locs _ _ (iv_w (iv_lit (n := 0) 0 (by decide)) (by decide) (by decide)) ⟨hJ, (iv_w (iv_lit (n := 0) 0 (by decide)) (by decide) (by decide))⟩ hH dX1_putByRule_124
        · skip
          refine lv_iconst (v := 1) hx hb dX1_putByRule_119 (by decide) ?_
          refine lv_goto (tgt := 124) hx hb dX1_putByRule_120 (by decide) ?_
          exact hret _ z_108 H locs _ _ (iv_w (iv_lit (n := 1) 1 (by decide)) (by decide) (by decide)) ⟨hJ, (iv_w (iv_lit (n := 1) 1 (by decide)) (by decide) (by decide))⟩ hH dX1_putByRule_124
      have HJ102 : ∀ (x2_102 : Int32) (x3_102 : Int32) (x4_102 : Int32) (z_102 : zS) (H : Heap) (locs : List Loc) (ls : Array Slot), iv 0 1023 x2_102 → iv 0 1023 x3_102 → iv 1 10 x4_102 → iv 0 19 x5_27 → jJ IvC 0 72057594037927936 0 z0 z_102 → bH D 66 (enC cy) q z_102 s.heap H locs → lv_has ls 7 [(0, .ref (q 55)), (1, .int p0), (2, .int x2_102), (3, .int x3_102), (4, .int x4_102), (5, .int x5_27)] → W p l e ({ frames := 5, cells := 0, slots := 0, locals := 124 }) s m args below meth c H locs 0 0 Q (F0 m 102 ls []) := by
        intro x2_102 x3_102 x4_102 z_102 H locs ls h2_102 h3_102 h4_102 h5_102 hJ hH hl
        have j214 : iv 1 20 (x5_27 + 1) := iv_add h5_102 (iv_lit (n := 1) 1 (by decide)) (by decide) (by decide) (by decide) (by decide)
        have e214 : (x5_27 + 1).toInt = x5_27.toInt + 1 := (iv_addE h5_102 (iv_lit (n := 1) 1 (by decide)) (by decide) (by decide)).trans rfl
        refine lv_iinc (v := (x5_27 + 1)) (lv' := [(5, .int (x5_27 + 1)), (0, .ref (q 55)), (1, .int p0), (2, .int x2_102), (3, .int x3_102), (4, .int x4_102)]) hx hb dX1_putByRule_102 hl (k := 5) rfl rfl (by decide) rfl (fun ls hl => ?_)
        refine lv_goto (tgt := 27) hx hb dX1_putByRule_105 (by decide) ?_
        exact ih27 _ (ms_up e214 j214.2 hn27) x2_102 x3_102 x4_102 (x5_27 + 1) z_102 H locs ls h2_102 h3_102 h4_102 (iv_w j214 (by decide) (by decide)) hJ hH (lv_sub hl [1, 2, 3, 4, 5, 0] rfl) rfl
      refine lv_iload hx hb dX1_putByRule_27 (lv_at hl 5 rfl) ?_
      refine lv_bipush (v := 20) hx hb dX1_putByRule_29 (by decide) ?_
      refine lv_icmp_ge (tgt := 108) hx hb dX1_putByRule_31 (by decide) (fun c215 => ?_) (fun c215 => ?_)
      · skip
        have k216b : iv 20 20 x5_27 := iv_ler (iv_Le c215) (iv_lit (n := 20) 20 (by decide)) h5_27
        exact HJ108  z_27 H locs ls  hJ hH (lv_sub hl [0, 2] rfl)
      · skip
        have k217a : iv 0 19 x5_27 := iv_ltl (iv_nLe c215) h5_27 (iv_lit (n := 20) 20 (by decide)) (by decide)
        refine lv_iload_n hx hb dX1_putByRule_34 rfl (lv_at hl 2 rfl) ?_
        refine lv_aload_n hx hb dX1_putByRule_35 rfl (lv_at hl 0 rfl) ?_
        refine b_get (ci := 1) (C := RX1) (T := TX1) (Nf := 2) (v := .ref (q 1)) hx hb hts in_X1_putByRule_X1 hown hK hH 55 (by decide) rfl rfl 0 (by decide) (hts (.fieldLink RX1 15 "StationLine$Putting" "bench" "LStationLine$Bench;") (List.mem_of_getElem? (i := 2) rfl)) rfl dX1_putByRule_36 ?_
        refine b_calli (As := []) (rest := [.int x2_27]) ⟨hx, hb, hml, hown, hts⟩ 1 0 (g_X0_all_1 l D cy q hH.2.1 z_27 hJ.1 ) (cwV 0 hts gX1_putByRule_X0_all rfl rfl rfl (by decide +kernel) ⟨Nat.le_of_ble_eq_true rfl, Nat.le_of_ble_eq_true rfl⟩) hK hZ hH (by decide) rfl rfl rfl hl.1 rfl (Nat.le_of_ble_eq_true rfl) ⟨Nat.zero_le _, Nat.zero_le _⟩ dX1_putByRule_39 (fun w218 z218 H locs hp hH => ?_)
        rw [Ag_0 hp.1.2] at hH
        have i218 := hp.2
        refine lv_icmp_eq (tgt := 108) hx hb dX1_putByRule_42 (by decide) (fun c219 => ?_) (fun c219 => ?_)
        · skip
          exact HJ108  z_27 H locs ls  hJ hH (lv_sub hl [0, 2] rfl)
        · skip
          refine lv_aload_n hx hb dX1_putByRule_45 rfl (lv_at hl 0 rfl) ?_
          refine lv_iload_n hx hb dX1_putByRule_46 rfl (lv_at hl 1 rfl) ?_
          refine lv_iload_n hx hb dX1_putByRule_47 rfl (lv_at hl 2 rfl) ?_
          refine lv_iload_n hx hb dX1_putByRule_48 rfl (lv_at hl 3 rfl) ?_
          refine b_calli (As := [.int p0, .int x2_27, .int x3_27]) (rest := []) ⟨hx, hb, hml, hown, hts⟩ 55 1 (g_X1_firstByRule_55 l D cy q hH.2.1 z_27 hJ.1 p0 x2_27 x3_27) (cwV 3 hts gX1_putByRule_X1_firstByRule rfl rfl rfl (by decide +kernel) ⟨Nat.le_of_ble_eq_true rfl, Nat.le_of_ble_eq_true rfl⟩) hK hZ hH (by decide) rfl rfl rfl hl.1 rfl (Nat.le_of_ble_eq_true rfl) ⟨Nat.zero_le _, Nat.zero_le _⟩ dX1_putByRule_49 (fun w222 z222 H locs hp hH => ?_)
          rw [Ag_0 hp.1.2] at hH
          have i222 := hp.2
          refine lv_istore (lv' := [(6, .int w222), (0, .ref (q 55)), (1, .int p0), (2, .int x2_27), (3, .int x3_27), (4, .int x4_27), (5, .int x5_27)]) hx hb dX1_putByRule_52 hl (by decide) rfl (fun ls hl => ?_)
          refine lv_iload hx hb dX1_putByRule_54 (lv_at hl 0 rfl) ?_
          refine lv_if_lt (tgt := 85) hx hb dX1_putByRule_56 (by decide) (fun c223 => ?_) (fun c223 => ?_)
          · skip
            have k224a : iv (-1) (-1) w222 := iv_ltl (iv_Lt c223) i222 (iv_lit (n := 0) 0 (by decide)) (by decide)
            refine lv_iload hx hb dX1_putByRule_85 (lv_at hl 5 rfl) ?_
            refine lv_bipush (v := 10) hx hb dX1_putByRule_87 (by decide) ?_
            refine lv_icmp_ge (tgt := 100) hx hb dX1_putByRule_89 (by decide) (fun c225 => ?_) (fun c225 => ?_)
            · skip
              have k226b : iv 10 10 x4_27 := iv_ler (iv_Le c225) (iv_lit (n := 10) 10 (by decide)) h4_27
              refine lv_iconst (v := 0) hx hb dX1_putByRule_100 (by decide) ?_
              exact hret _ z_27 H locs _ _ (iv_w (iv_lit (n := 0) 0 (by decide)) (by decide) (by decide)) ⟨hJ, (iv_w (iv_lit (n := 0) 0 (by decide)) (by decide) (by decide))⟩ hH dX1_putByRule_101
            · skip
              have k227a : iv 1 9 x4_27 := iv_ltl (iv_nLe c225) h4_27 (iv_lit (n := 10) 10 (by decide)) (by decide)
              have j228 : iv 2 10 (x4_27 + 1) := iv_add k227a (iv_lit (n := 1) 1 (by decide)) (by decide) (by decide) (by decide) (by decide)
              have e228 : (x4_27 + 1).toInt = x4_27.toInt + 1 := (iv_addE k227a (iv_lit (n := 1) 1 (by decide)) (by decide) (by decide)).trans rfl
              refine lv_iinc (v := (x4_27 + 1)) (lv' := [(4, .int (x4_27 + 1)), (6, .int w222), (0, .ref (q 55)), (1, .int p0), (2, .int x2_27), (3, .int x3_27), (5, .int x5_27)]) hx hb dX1_putByRule_92 hl (k := 5) rfl rfl (by decide) rfl (fun ls hl => ?_)
              refine lv_iconst (v := 0) hx hb dX1_putByRule_95 (by decide) ?_
              refine lv_istore_n (lv' := [(3, .int 0), (4, .int (x4_27 + 1)), (6, .int w222), (0, .ref (q 55)), (1, .int p0), (2, .int x2_27), (5, .int x5_27)]) hx hb dX1_putByRule_96 rfl hl (by decide) rfl (fun ls hl => ?_)
              refine lv_goto (tgt := 102) hx hb dX1_putByRule_97 (by decide) ?_
              exact HJ102 x2_27 0 (x4_27 + 1) z_27 H locs ls h2_27 (iv_w (iv_lit (n := 0) 0 (by decide)) (by decide) (by decide)) (iv_w j228 (by decide) (by decide)) k217a hJ hH (lv_sub hl [3, 4, 5, 0, 1, 6] rfl)
          · skip
            have k229b : iv 0 9 w222 := iv_ler (iv_nLt c223) (iv_lit (n := 0) 0 (by decide)) i222
            refine lv_aload_n hx hb dX1_putByRule_59 rfl (lv_at hl 1 rfl) ?_
            refine b_get (ci := 1) (C := RX1) (T := TX1) (Nf := 2) (v := .ref (q 56)) hx hb hts in_X1_putByRule_X1 hown hK hH 55 (by decide) rfl rfl 1 (by decide) (hts (.fieldLink RX1 9 "StationLine$Putting" "row" "[I") (List.mem_of_getElem? (i := 1) rfl)) rfl dX1_putByRule_60 ?_
            refine lv_iload hx hb dX1_putByRule_63 (lv_at hl 0 rfl) ?_
            refine lv_iload hx hb dX1_putByRule_65 (lv_at hl 5 rfl) ?_
            refine b_iast hx hb hK hH 56 (by decide) rfl (iv_in k229b (by decide) (by decide)) (upA z_27 56 (upd (z_27.2.1 56) (w222 : Int32).toNatClampNeg x4_27)) rfl (enC_A _ _ _ _ _) dX1_putByRule_67 (fun H locs hH => ?_)
            obtain ⟨z230, hz230⟩ : ∃ w : zS, w = upA z_27 56 (upd (z_27.2.1 56) (w222 : Int32).toNatClampNeg x4_27) := ⟨_, rfl⟩
            rw [← hz230] at hH
            have hJ : jJ IvC 0 72057594037927936 0 z0 z230 := by rw [hz230]; exact jJ_A hJ (by decide) (IvC_A56 hJ.1 _ (iv_w h4_27 (by decide) (by decide)))
            refine lv_iload_n hx hb dX1_putByRule_68 rfl (lv_at hl 3 rfl) ?_
            refine lv_iconst (v := 1) hx hb dX1_putByRule_69 (by decide) ?_
            refine lv_iload hx hb dX1_putByRule_70 (lv_at hl 0 rfl) ?_
            refine lv_ishl hx hb dX1_putByRule_72 ?_
            refine h_i (a := 1) (b := 512) (iv_bit k229b (by decide) (by decide)) (fun w231 i231 => ?_)
            refine lv_ior hx hb dX1_putByRule_73 ?_
            refine h_i (a := 0) (b := 1023) (iv_or 10 (b := 1023) (d := 512) (iv_w h2_27 (by decide) (by decide)) (iv_w i231 (by decide) (by decide)) (by decide) (by decide) (by decide) (by decide)) (fun w232 i232 => ?_)
            refine lv_istore_n (lv' := [(2, .int w232), (6, .int w222), (0, .ref (q 55)), (1, .int p0), (3, .int x3_27), (4, .int x4_27), (5, .int x5_27)]) hx hb dX1_putByRule_74 rfl hl (by decide) rfl (fun ls hl => ?_)
            refine lv_iload_n hx hb dX1_putByRule_75 rfl (lv_at hl 4 rfl) ?_
            refine lv_iconst (v := 1) hx hb dX1_putByRule_76 (by decide) ?_
            refine lv_iload hx hb dX1_putByRule_77 (lv_at hl 1 rfl) ?_
            refine lv_ishl hx hb dX1_putByRule_79 ?_
            refine h_i (a := 1) (b := 512) (iv_bit k229b (by decide) (by decide)) (fun w233 i233 => ?_)
            refine lv_ior hx hb dX1_putByRule_80 ?_
            refine h_i (a := 0) (b := 1023) (iv_or 10 (b := 1023) (d := 512) (iv_w h3_27 (by decide) (by decide)) (iv_w i233 (by decide) (by decide)) (by decide) (by decide) (by decide) (by decide)) (fun w234 i234 => ?_)
            refine lv_istore_n (lv' := [(3, .int w234), (2, .int w232), (6, .int w222), (0, .ref (q 55)), (1, .int p0), (4, .int x4_27), (5, .int x5_27)]) hx hb dX1_putByRule_81 rfl hl (by decide) rfl (fun ls hl => ?_)
            refine lv_goto (tgt := 102) hx hb dX1_putByRule_82 (by decide) ?_
            exact HJ102 w232 w234 x4_27 z230 H locs ls i232 i234 h4_27 k217a hJ hH (lv_sub hl [3, 4, 1, 0, 5, 6] rfl)
  refine lv_aload_n hx hb dX1_putByRule_0 rfl (lv_at hl 0 rfl) ?_
  refine b_calli (As := []) (rest := []) ⟨hx, hb, hml, hown, hts⟩ 55 1 (g_X1_someTaskIsTooMuch_55 l D cy q hH.2.1 z0 hJ.1 ) (cwV 0 hts gX1_putByRule_X1_someTaskIsTooMuch rfl rfl rfl (by decide +kernel) ⟨Nat.le_of_ble_eq_true rfl, Nat.le_of_ble_eq_true rfl⟩) hK hZ hH (by decide) rfl rfl rfl hl.1 rfl (Nat.le_of_ble_eq_true rfl) ⟨Nat.zero_le _, Nat.zero_le _⟩ dX1_putByRule_1 (fun w235 z235 H locs hp hH => ?_)
  rw [Ag_0 hp.1.2] at hH
  have i235 := hp.2
  refine lv_if_eq (tgt := 9) hx hb dX1_putByRule_4 (by decide) (fun c236 => ?_) (fun c236 => ?_)
  · skip
    have k237a : iv 0 0 w235 := iv_eql (iv_Eq c236) i235 (iv_lit (n := 0) 0 (by decide)) (by decide) (by decide)
    refine lv_aload_n hx hb dX1_putByRule_9 rfl (lv_at hl 0 rfl) ?_
    refine b_get (ci := 1) (C := RX1) (T := TX1) (Nf := 2) (v := .ref (q 56)) hx hb hts in_X1_putByRule_X1 hown hK hH 55 (by decide) rfl rfl 1 (by decide) (hts (.fieldLink RX1 9 "StationLine$Putting" "row" "[I") (List.mem_of_getElem? (i := 1) rfl)) rfl dX1_putByRule_10 ?_
    refine lv_iconst (v := 0) hx hb dX1_putByRule_13 (by decide) ?_
    refine b_statv (As := [.ref (q 56), .int 0]) (rest := []) ⟨hx, hb, hml, hown, hts⟩ (c_fill l D cy 66 (enC cy) q hH.2.1 z0 56 10 0 (by decide) (by decide) (fun _ => rfl) (fun w f => enC_A _ _ _ _ _)) (va_cwS 2 hts gX1_putByRule_J7_fill_53178 rfl rfl rfl (by decide +kernel) ⟨Nat.le_of_ble_eq_true rfl, Nat.le_of_ble_eq_true rfl⟩) hK hZ hH rfl hl.1 rfl (Nat.le_of_ble_eq_true rfl) ⟨Nat.zero_le _, Nat.zero_le _⟩ dX1_putByRule_14 (fun z1 H locs hp hH => ?_)
    obtain ⟨ff, rfl, hff⟩ := hp
    obtain ⟨z238, hz238⟩ : ∃ w : zS, w = upA z0 56 ff := ⟨_, rfl⟩
    rw [← hz238] at hH
    have hJ : jJ IvC 0 72057594037927936 0 z0 z238 := by rw [hz238]; exact jJ_A hJ (by decide) (IvC_R56 hJ.1 (rw_fill hff (iv_w (iv_lit (n := 0) 0 (by decide)) (by decide) (by decide))))
    refine lv_iconst (v := 0) hx hb dX1_putByRule_17 (by decide) ?_
    refine lv_istore_n (lv' := [(2, .int 0), (0, .ref (q 55)), (1, .int p0)]) hx hb dX1_putByRule_18 rfl hl (by decide) rfl (fun ls hl => ?_)
    refine lv_iconst (v := 0) hx hb dX1_putByRule_19 (by decide) ?_
    refine lv_istore_n (lv' := [(3, .int 0), (2, .int 0), (0, .ref (q 55)), (1, .int p0)]) hx hb dX1_putByRule_20 rfl hl (by decide) rfl (fun ls hl => ?_)
    refine lv_iconst (v := 1) hx hb dX1_putByRule_21 (by decide) ?_
    refine lv_istore (lv' := [(4, .int 1), (3, .int 0), (2, .int 0), (0, .ref (q 55)), (1, .int p0)]) hx hb dX1_putByRule_22 hl (by decide) rfl (fun ls hl => ?_)
    refine lv_iconst (v := 0) hx hb dX1_putByRule_24 (by decide) ?_
    refine lv_istore (lv' := [(5, .int 0), (4, .int 1), (3, .int 0), (2, .int 0), (0, .ref (q 55)), (1, .int p0)]) hx hb dX1_putByRule_25 hl (by decide) rfl (fun ls hl => ?_)
    exact HL27 _ 0 0 1 0 z238 H locs ls (iv_w (iv_lit (n := 0) 0 (by decide)) (by decide) (by decide)) (iv_w (iv_lit (n := 0) 0 (by decide)) (by decide) (by decide)) (iv_w (iv_lit (n := 1) 1 (by decide)) (by decide) (by decide)) (iv_w (iv_lit (n := 0) 0 (by decide)) (by decide) (by decide)) hJ hH (lv_sub hl [4, 5, 3, 2, 1, 0] rfl) rfl
  · skip
    have k239a : iv 1 1 w235 := iv_neLo (iv_nEq c236) i235 (by decide) (by decide)
    refine lv_iconst (v := 0) hx hb dX1_putByRule_7 (by decide) ?_
    exact hret _ z0 H locs _ _ (iv_w (iv_lit (n := 0) 0 (by decide)) (by decide) (by decide)) ⟨hJ, (iv_w (iv_lit (n := 0) 0 (by decide)) (by decide) (by decide))⟩ hH dX1_putByRule_8
set_option maxHeartbeats 4000000 in
set_option maxRecDepth 100000 in
theorem g_X2_leastStep (l : Launch) (D : va_G) (cy : Nat → ClassId) (q : Nat → Nat) (hq : bJ 66 q) (z0 : zS) (hI : IvC z0) (p1 : Int32) (hp1 : iv 0 9 p1) (p2 : Int32) : bCi l yX2_leastStep wsX2_leastStep ({ frames := 0, cells := 0, slots := 0, locals := 0 }) D cy 66 (enC cy) q z0 [.ref (q 1), .int p1, .int p2] (fun v z => jJ IvC 0 0 0 z0 z ∧ iv 0 9 v) := by
  refine hM_i cX2_leastStep (by decide) rfl (own := RX2) rfl hq (Nat.le_of_ble_eq_true rfl) ?_
  intro p e s m args below meth c Q ls H locs hx hb hml hown hts hK hZ hH hl hret
  have hl : lv_has ls 4 [(0, .ref (q 1)), (1, .int p1), (2, .int p2)] := hl
  have hJ : jJ IvC 0 0 0 z0 z0 := jJ_rf _ _ _ hI
  have HL2 : ∀ (n : Nat) (x3_2 : Int32) (H : Heap) (locs : List Loc) (ls : Array Slot), iv 0 10 x3_2 → bH D 66 (enC cy) q z0 s.heap H locs → lv_has ls 4 [(0, .ref (q 1)), (1, .int p1), (2, .int p2), (3, .int x3_2)] → (10 - x3_2.toInt).toNat = n → W p l e ({ frames := 0, cells := 0, slots := 0, locals := 0 }) s m args below meth c H locs 0 0 Q (F0 m 2 ls []) := by
    intro n2
    induction n2 using Nat.strongRecOn with
    | ind n2 ih2 =>
      intro x3_2 H locs ls h3_2 hH hl hn2
      have HJ33 : ∀ (H : Heap) (locs : List Loc) (ls : Array Slot), iv 0 9 x3_2 → iv 1 10 (z0.1 0) → bH D 66 (enC cy) q z0 s.heap H locs → lv_has ls 4 [(0, .ref (q 1)), (1, .int p1), (2, .int p2), (3, .int x3_2)] → W p l e ({ frames := 0, cells := 0, slots := 0, locals := 0 }) s m args below meth c H locs 0 0 Q (F0 m 33 ls []) := by
        intro H locs ls h3_33 gh0_33 hH hl
        have j105 : iv 1 10 (x3_2 + 1) := iv_add h3_33 (iv_lit (n := 1) 1 (by decide)) (by decide) (by decide) (by decide) (by decide)
        have e105 : (x3_2 + 1).toInt = x3_2.toInt + 1 := (iv_addE h3_33 (iv_lit (n := 1) 1 (by decide)) (by decide) (by decide)).trans rfl
        refine lv_iinc (v := (x3_2 + 1)) (lv' := [(3, .int (x3_2 + 1)), (0, .ref (q 1)), (1, .int p1), (2, .int p2)]) hx hb dX2_leastStep_33 hl (k := 3) rfl rfl (by decide) rfl (fun ls hl => ?_)
        refine lv_goto (tgt := 2) hx hb dX2_leastStep_36 (by decide) ?_
        exact ih2 _ (ms_up e105 j105.2 hn2) (x3_2 + 1)  H locs ls (iv_w j105 (by decide) (by decide))  hH (lv_sub hl [1, 2, 3, 0] rfl) rfl
      refine lv_iload_n hx hb dX2_leastStep_2 rfl (lv_at hl 3 rfl) ?_
      refine lv_aload_n hx hb dX2_leastStep_3 rfl (lv_at hl 0 rfl) ?_
      refine b_get (ci := 0) (C := RX0) (T := TX0) (Nf := 11) (v := .int (z0.1 0)) hx hb hts in_X2_leastStep_X0 hown hK hH 1 (by decide) rfl rfl 0 (by decide) (hts (.fieldLink RX2 29 "StationLine$Bench" "size" "I") (List.mem_of_getElem? (i := 1) rfl)) rfl dX2_leastStep_4 ?_
      have i106 := IvC_s0 hJ.1
      refine lv_icmp_ge (tgt := 39) hx hb dX2_leastStep_7 (by decide) (fun c107 => ?_) (fun c107 => ?_)
      · skip
        refine lv_iload_n hx hb dX2_leastStep_39 rfl (lv_at hl 1 rfl) ?_
        exact hret _ z0 H locs _ _ ⟨hJ, hp1⟩ hH dX2_leastStep_40
      · skip
        have k109a : iv 0 9 x3_2 := iv_ltl (iv_nLe c107) h3_2 i106 (by decide)
        have k109b : iv 1 10 (z0.1 0) := iv_ltr (iv_nLe c107) h3_2 i106 (by decide)
        refine lv_iload_n hx hb dX2_leastStep_10 rfl (lv_at hl 2 rfl) ?_
        refine lv_iconst (v := 1) hx hb dX2_leastStep_11 (by decide) ?_
        refine lv_iload_n hx hb dX2_leastStep_12 rfl (lv_at hl 3 rfl) ?_
        refine lv_ishl hx hb dX2_leastStep_13 ?_
        refine h_i (a := 1) (b := 512) (iv_bit k109a (by decide) (by decide)) (fun w110 i110 => ?_)
        refine lv_iand hx hb dX2_leastStep_14 ?_
        refine h_i (a := 0) (b := 512) (iv_and2 (iv_all p2) i110 (by decide) (by decide)) (fun w111 i111 => ?_)
        refine lv_if_eq (tgt := 33) hx hb dX2_leastStep_15 (by decide) (fun c112 => ?_) (fun c112 => ?_)
        · skip
          have k113a : iv 0 0 w111 := iv_eql (iv_Eq c112) i111 (iv_lit (n := 0) 0 (by decide)) (by decide) (by decide)
          exact HJ33   H locs ls k109a k109b  hH (lv_sub hl [0, 1, 2, 3] rfl)
        · skip
          have k114a : iv 1 512 w111 := iv_neLo (iv_nEq c112) i111 (by decide) (by decide)
          refine lv_aload_n hx hb dX2_leastStep_18 rfl (lv_at hl 0 rfl) ?_
          refine b_get (ci := 0) (C := RX0) (T := TX0) (Nf := 11) (v := .ref (q 7)) hx hb hts in_X2_leastStep_X0 hown hK hH 1 (by decide) rfl rfl 5 (by decide) (hts (.fieldLink RX2 32 "StationLine$Bench" "before" "[I") (List.mem_of_getElem? (i := 2) rfl)) rfl dX2_leastStep_19 ?_
          refine lv_iload_n hx hb dX2_leastStep_22 rfl (lv_at hl 3 rfl) ?_
          refine b_iald (v := z0.2.1 7 (x3_2 : Int32).toNatClampNeg) hx hb hK hH 7 (by decide) rfl (iv_in k109a (by decide) (by decide)) rfl dX2_leastStep_23 ?_
          refine lv_iconst (v := 1) hx hb dX2_leastStep_24 (by decide) ?_
          refine lv_iload_n hx hb dX2_leastStep_25 rfl (lv_at hl 1 rfl) ?_
          refine lv_ishl hx hb dX2_leastStep_26 ?_
          refine h_i (a := 1) (b := 512) (iv_bit hp1 (by decide) (by decide)) (fun w115 i115 => ?_)
          refine lv_iand hx hb dX2_leastStep_27 ?_
          refine h_i (a := 0) (b := 512) (iv_and2 (iv_all (z0.2.1 7 (x3_2 : Int32).toNatClampNeg)) i115 (by decide) (by decide)) (fun w116 i116 => ?_)
          refine lv_if_eq (tgt := 33) hx hb dX2_leastStep_28 (by decide) (fun c117 => ?_) (fun c117 => ?_)
          · skip
            have k118a : iv 0 0 w116 := iv_eql (iv_Eq c117) i116 (iv_lit (n := 0) 0 (by decide)) (by decide) (by decide)
            exact HJ33   H locs ls k109a k109b  hH (lv_sub hl [0, 1, 2, 3] rfl)
          · skip
            have k119a : iv 1 512 w116 := iv_neLo (iv_nEq c117) i116 (by decide) (by decide)
            refine lv_iload_n hx hb dX2_leastStep_31 rfl (lv_at hl 3 rfl) ?_
            exact hret _ z0 H locs _ _ ⟨hJ, k109a⟩ hH dX2_leastStep_32
  refine lv_iconst (v := 0) hx hb dX2_leastStep_0 (by decide) ?_
  refine lv_istore_n (lv' := [(3, .int 0), (0, .ref (q 1)), (1, .int p1), (2, .int p2)]) hx hb dX2_leastStep_1 rfl hl (by decide) rfl (fun ls hl => ?_)
  exact HL2 _ 0  H locs ls (iv_w (iv_lit (n := 0) 0 (by decide)) (by decide) (by decide))  hH (lv_sub hl [1, 2, 3, 0] rfl) rfl
