set_option maxHeartbeats 4000000 in
set_option maxRecDepth 100000 in
theorem g_X5_check_0 (l : Launch) (D : va_G) (cy : Nat → ClassId) (q : Nat → Nat) (hq : bJ 66 q) (z0 : zS) (hI : IvC z0)  : bCi l yX5_check wsX5_check ({ frames := 5, cells := 0, slots := 0, locals := 118 }) D cy 66 (enC cy) q z0 [.ref (q 0)] (fun v z => jJ IvC 512 72057594037927936 0 z0 z ∧ iv (-2) 96 v ∧ (z.1 9 = 0)) := by
  refine hM_i cX5_check (by decide) rfl (own := RX5) rfl hq (Nat.le_of_ble_eq_true rfl) ?_
  intro p e s m args below meth c Q ls H locs hx hb hml hown hts hK hZ hH hl hret
  have hl : lv_has ls 3 [(0, .ref (q 0))] := hl
  have hJ : jJ IvC 512 72057594037927936 0 z0 z0 := jJ_rf _ _ _ hI
  have e00 : (0 : Int32).toInt = 0 := (by decide); have e01 : (1 : Int32).toInt = 1 := (by decide); have e02 : (2 : Int32).toInt = 2 := (by decide); have e03 : (3 : Int32).toInt = 3 := (by decide); have e010 : (10 : Int32).toInt = 10 := (by decide)
  have HL26 : ∀ (n : Nat) (x1_26 : Int32) (x2_26 : Int32) (z_26 : zS) (H : Heap) (locs : List Loc) (ls : Array Slot), iv 0 10 x1_26 → iv 0 10 x2_26 → iv 0 0 (z_26.1 9) → ((∀ j : Nat, (j : Int) < (x2_26).toInt → iv 0 10 (z_26.2.1 65 j)) ∧ z_26.1 9 = 0) → jJ IvC 512 72057594037927936 0 z0 z_26 → bH D 66 (enC cy) q z_26 s.heap H locs → lv_has ls 3 [(0, .ref (q 0)), (1, .int x1_26), (2, .int x2_26)] → (10 - x2_26.toInt).toNat = n → W p l e ({ frames := 5, cells := 0, slots := 0, locals := 118 }) s m args below meth c H locs 0 0 Q (F0 m 26 ls []) := by
    intro n26
    induction n26 using Nat.strongRecOn with
    | ind n26 ih26 =>
      intro x1_26 x2_26 z_26 H locs ls h1_26 h2_26 gh9_26 ex_26 hJ hH hl hn26
      have := h1_26.1; have := h1_26.2; have := h2_26.1; have := h2_26.2; have := gh9_26.1; have := gh9_26.2
      refine lv_iload_n hx hb dX5_check_26 rfl (lv_at hl 2 rfl) ?_
      refine lv_iload_n hx hb dX5_check_27 rfl (lv_at hl 1 rfl) ?_
      refine lv_icmp_ge (tgt := 52) hx hb dX5_check_28 (by decide) (fun c134 => ?_) (fun c134 => ?_)
      · skip
        have r134 := (iv_Le c134)
        refine lv_aload_n hx hb dX5_check_52 rfl (lv_at hl 0 rfl) ?_
        refine b_get (ci := 5) (C := RX5) (T := TX5) (Nf := 12) (v := .ref (q 65)) hx hb hts in_X5_check_X5 hown hK hH 0 (by decide) rfl rfl 9 (by decide) (hts (.fieldLink RX5 59 "StationLine" "waiting" "[I") (List.mem_of_getElem? (i := 4) rfl)) rfl dX5_check_53 ?_
        refine lv_iconst (v := 0) hx hb dX5_check_56 (by decide) ?_
        refine lv_aload_n hx hb dX5_check_57 rfl (lv_at hl 0 rfl) ?_
        refine b_get (ci := 5) (C := RX5) (T := TX5) (Nf := 12) (v := .ref (q 55)) hx hb hts in_X5_check_X5 hown hK hH 0 (by decide) rfl rfl 7 (by decide) (hts (.fieldLink RX5 49 "StationLine" "trial" "LStationLine$Putting;") (List.mem_of_getElem? (i := 5) rfl)) rfl dX5_check_58 ?_
        refine b_get (ci := 1) (C := RX1) (T := TX1) (Nf := 2) (v := .ref (q 56)) hx hb hts in_X5_check_X1 hown hK hH 55 (by decide) rfl rfl 1 (by decide) (hts (.fieldLink RX5 77 "StationLine$Putting" "row" "[I") (List.mem_of_getElem? (i := 6) rfl)) rfl dX5_check_61 ?_
        refine lv_iconst (v := 0) hx hb dX5_check_64 (by decide) ?_
        refine lv_iload_n hx hb dX5_check_65 rfl (lv_at hl 1 rfl) ?_
        refine b_copyi hx hb (by rw [hml]; exact hl.1.symm) hown (hts (.methodLink RX5 240 arraycopyName) (List.mem_of_getElem? (i := 7) rfl)) (hts (.native arraycopyName) (List.mem_of_getElem? (i := 8) rfl)) (hts (.static arraycopyName) (List.mem_of_getElem? (i := 9) rfl)) (hts (.initialized "java/lang/System") (List.mem_of_getElem? (i := 10) rfl)) hK hH 65 56 (by decide) (by decide) rfl rfl (by decide) (by decide) (iv_ge0 h1_26 (by decide)) (Nat.le_trans (Nat.le_of_eq (Nat.zero_add _)) (iv_cl h1_26 (n := 20) (by decide))) (Nat.le_trans (Nat.le_of_eq (Nat.zero_add _)) (iv_cl h1_26 (n := 10) (by decide))) (Nat.le_of_ble_eq_true rfl) (Nat.le_of_ble_eq_true rfl) (upA z_26 56 (va_cpy (z_26.2.1 65) (z_26.2.1 56) (0 : Int32).toNatClampNeg (0 : Int32).toNatClampNeg (x1_26 : Int32).toNatClampNeg)) rfl (enC_A _ _ _ _ _) dX5_check_66 (fun H locs hH => ?_)
        obtain ⟨z136, hz136⟩ : ∃ w : zS, w = upA z_26 56 (va_cpy (z_26.2.1 65) (z_26.2.1 56) (0 : Int32).toNatClampNeg (0 : Int32).toNatClampNeg (x1_26 : Int32).toNatClampNeg) := ⟨_, rfl⟩
        rw [← hz136] at hH
        have hJ : jJ IvC 512 72057594037927936 0 z0 z136 := by rw [hz136]; exact jJ_A hJ (by decide) (IvC_R56 hJ.1 (rw_cpyN (fun i hi => ex_26.1 i (by have := iv_nat h1_26 (by decide); omega)) (IvC_a56 hJ.1)))
        have g137 : iv 0 0 (z136.1 9) := by rw [hz136]; exact gh9_26
        refine lv_aload_n hx hb dX5_check_69 rfl (lv_at hl 0 rfl) ?_
        refine b_get (ci := 5) (C := RX5) (T := TX5) (Nf := 12) (v := .ref (q 55)) hx hb hts in_X5_check_X5 hown hK hH 0 (by decide) rfl rfl 7 (by decide) (hts (.fieldLink RX5 49 "StationLine" "trial" "LStationLine$Putting;") (List.mem_of_getElem? (i := 5) rfl)) rfl dX5_check_70 ?_
        refine b_calli (As := []) (rest := []) ⟨hx, hb, hml, hown, hts⟩ 55 1 (g_X1_firstClash_55 l D cy q hH.2.1 z136 hJ.1 ) (cwV 0 hts gX5_check_X1_firstClash rfl rfl rfl (by decide +kernel) ⟨Nat.le_of_ble_eq_true rfl, Nat.le_of_ble_eq_true rfl⟩) hK hZ hH (by decide) rfl rfl rfl hl.1 rfl (Nat.le_of_ble_eq_true rfl) ⟨Nat.zero_le _, Nat.zero_le _⟩ dX5_check_73 (fun w138 z138 H locs hp hH => ?_)
        rw [Ag_0 hp.1.2] at hH
        have i138 := hp.2
        have := i138.1; have := i138.2
        refine lv_istore_n (lv' := [(2, .int w138), (0, .ref (q 0)), (1, .int x1_26)]) hx hb dX5_check_76 rfl hl (by decide) rfl (fun ls hl => ?_)
        refine lv_iload_n hx hb dX5_check_77 rfl (lv_at hl 0 rfl) ?_
        refine lv_if_ge (tgt := 85) hx hb dX5_check_78 (by decide) (fun c139 => ?_) (fun c139 => ?_)
        · skip
          have r139 := (iv_Le c139)
          have k140b : iv 0 9 w138 := iv_ler (iv_Le c139) (iv_lit (n := 0) 0 (by decide)) i138
          refine lv_bipush (v := 10) hx hb dX5_check_85 (by decide) ?_
          refine lv_iload_n hx hb dX5_check_87 rfl (lv_at hl 0 rfl) ?_
          refine lv_imul hx hb dX5_check_88 ?_
          refine h_i (a := 0) (b := 90) (iv_mul (iv_lit (n := 10) 10 (by decide)) k140b (by decide) (by decide) (by decide) (by decide) (by decide)) (fun w141 i141 => ?_)
          have := i141.1; have := i141.2
          refine lv_aload_n hx hb dX5_check_89 rfl (lv_at hl 1 rfl) ?_
          refine b_get (ci := 5) (C := RX5) (T := TX5) (Nf := 12) (v := .ref (q 55)) hx hb hts in_X5_check_X5 hown hK hH 0 (by decide) rfl rfl 7 (by decide) (hts (.fieldLink RX5 49 "StationLine" "trial" "LStationLine$Putting;") (List.mem_of_getElem? (i := 5) rfl)) rfl dX5_check_90 ?_
          refine lv_iload_n hx hb dX5_check_93 rfl (lv_at hl 0 rfl) ?_
          refine b_calli (As := [.int w138]) (rest := [.int w141]) ⟨hx, hb, hml, hown, hts⟩ 55 1 (g_X1_causeOf_55 l D cy q hH.2.1 z136 hJ.1 w138 k140b) (cwV 1 hts gX5_check_X1_causeOf rfl rfl rfl (by decide +kernel) ⟨Nat.le_of_ble_eq_true rfl, Nat.le_of_ble_eq_true rfl⟩) hK hZ hH (by decide) rfl rfl rfl hl.1 rfl (Nat.le_of_ble_eq_true rfl) ⟨Nat.zero_le _, Nat.zero_le _⟩ dX5_check_94 (fun w142 z142 H locs hp hH => ?_)
          rw [Ag_0 hp.1.2] at hH
          have i142 := hp.2
          have := i142.1; have := i142.2
          refine lv_iadd hx hb dX5_check_97 ?_
          refine h_i (a := 0) (b := 96) (iv_add i141 i142 (by decide) (by decide) (by decide) (by decide)) (fun w143 i143 => ?_)
          have := i143.1; have := i143.2
          exact hret _ z136 H locs _ _ ⟨hJ, (iv_w i143 (by decide) (by decide)), (((show z136.1 9 = z_26.1 9 by rw [hz136]; rfl)).trans ex_26.2)⟩ hH dX5_check_98
        · skip
          have r139 := (iv_nLe c139)
          have k144a : iv (-1) (-1) w138 := iv_ltl (iv_nLe c139) i138 (iv_lit (n := 0) 0 (by decide)) (by decide)
          refine lv_iconst (v := 0) hx hb dX5_check_81 (by decide) ?_
          refine lv_goto (tgt := 98) hx hb dX5_check_82 (by decide) ?_
          exact hret _ z136 H locs _ _ ⟨hJ, (iv_w (iv_lit (n := 0) 0 (by decide)) (by decide) (by decide)), (((show z136.1 9 = z_26.1 9 by rw [hz136]; rfl)).trans ex_26.2)⟩ hH dX5_check_98
      · skip
        have r134 := (iv_nLe c134)
        have k145a : iv 0 9 x2_26 := iv_ltl (iv_nLe c134) h2_26 h1_26 (by decide)
        have k145b : iv 1 10 x1_26 := iv_ltr (iv_nLe c134) h2_26 h1_26 (by decide)
        refine lv_aload_n hx hb dX5_check_31 rfl (lv_at hl 0 rfl) ?_
        refine b_get (ci := 5) (C := RX5) (T := TX5) (Nf := 12) (v := .ref (q 65)) hx hb hts in_X5_check_X5 hown hK hH 0 (by decide) rfl rfl 9 (by decide) (hts (.fieldLink RX5 59 "StationLine" "waiting" "[I") (List.mem_of_getElem? (i := 4) rfl)) rfl dX5_check_32 ?_
        refine lv_iload_n hx hb dX5_check_35 rfl (lv_at hl 2 rfl) ?_
        refine b_iald hx hb hK hH 65 (by decide) rfl (iv_in k145a (by decide) (by decide)) rfl dX5_check_36 ?_
        refine b_stati (As := [.int (z_26.2.1 65 (x2_26 : Int32).toNatClampNeg)]) (rest := []) ⟨hx, hb, hml, hown, hts⟩ (g_X5_isStationOrNone l D cy q hH.2.1 z_26 hJ.1 (z_26.2.1 65 (x2_26 : Int32).toNatClampNeg)) (va_cwS 1 hts gX5_check_X5_isStationOrNone rfl rfl rfl (by decide +kernel) ⟨Nat.le_of_ble_eq_true rfl, Nat.le_of_ble_eq_true rfl⟩) hK hZ hH rfl hl.1 rfl (Nat.le_of_ble_eq_true rfl) ⟨Nat.zero_le _, Nat.zero_le _⟩ dX5_check_37 (fun w146 z146 H locs hp hH => ?_)
        rw [Ag_0 hp.1.2] at hH
        have i146 := hp.2.1
        have := i146.1; have := i146.2
        have tr146_0 := hp.2.2
        refine lv_if_ne (tgt := 46) hx hb dX5_check_40 (by decide) (fun c147 => ?_) (fun c147 => ?_)
        · skip
          have k148 : iv 0 10 (z_26.2.1 65 (x2_26 : Int32).toNatClampNeg) := (tr146_0).resolve_left c147
          have := k148.1; have := k148.2
          have r147 := (iv_nEq c147)
          have k149a : iv 1 1 w146 := iv_neLo (iv_nEq c147) i146 (by decide) (by decide)
          have j150 : iv 1 10 (x2_26 + 1) := iv_add k145a (iv_lit (n := 1) 1 (by decide)) (by decide) (by decide) (by decide) (by decide)
          have e150 : (x2_26 + 1).toInt = x2_26.toInt + 1 := (iv_addE k145a (iv_lit (n := 1) 1 (by decide)) (by decide) (by decide)).trans rfl
          refine lv_iinc (v := (x2_26 + 1)) (lv' := [(2, .int (x2_26 + 1)), (0, .ref (q 0)), (1, .int x1_26)]) hx hb dX5_check_46 hl (k := 2) rfl rfl (by decide) rfl (fun ls hl => ?_)
          refine lv_goto (tgt := 26) hx hb dX5_check_49 (by decide) ?_
          exact ih26 _ (ms_up e150 j150.2 hn26) x1_26 (x2_26 + 1) z_26 H locs ls (iv_w k145b (by decide) (by decide)) (iv_w j150 (by decide) (by decide)) gh9_26 ⟨fun j hj => by exact ck_step (iv_w k145a (by decide) (by decide)) hj (e150) ex_26.1 k148, ex_26.2⟩ hJ hH (lv_sub hl [1, 2, 0] rfl) rfl
        · skip
          have r147 := (iv_Eq c147)
          have k151a : iv 0 0 w146 := iv_eql (iv_Eq c147) i146 (iv_lit (n := 0) 0 (by decide)) (by decide) (by decide)
          refine lv_bipush (v := (-2)) hx hb dX5_check_43 (by decide) ?_
          exact hret _ z_26 H locs _ _ ⟨hJ, (iv_w (iv_lit (n := (-2)) (-2) (by decide)) (by decide) (by decide)), ex_26.2⟩ hH dX5_check_45
  refine lv_aload_n hx hb dX5_check_0 rfl (lv_at hl 0 rfl) ?_
  refine b_get (ci := 5) (C := RX5) (T := TX5) (Nf := 12) (v := .int (z0.1 9)) hx hb hts in_X5_check_X5 hown hK hH 0 (by decide) rfl rfl 10 (by decide) (hts (.fieldLink RX5 63 "StationLine" "waitingCount" "I") (List.mem_of_getElem? (i := 1) rfl)) rfl dX5_check_1 ?_
  have i152 := IvC_s9 hJ.1
  have := i152.1; have := i152.2
  refine lv_istore_n (lv' := [(1, .int (z0.1 9)), (0, .ref (q 0))]) hx hb dX5_check_4 rfl hl (by decide) rfl (fun ls hl => ?_)
  refine lv_aload_n hx hb dX5_check_5 rfl (lv_at hl 1 rfl) ?_
  refine lv_iconst (v := 0) hx hb dX5_check_6 (by decide) ?_
  refine b_put (ci := 5) (C := RX5) (T := TX5) (Nf := 12) (v := .int 0) (ty := .int) hx hb hts in_X5_check_X5 tyX5 tyX5_ok nmX5 hown hK hH 0 (by decide) rfl rfl 10 (by decide) (hts (.fieldLink RX5 63 "StationLine" "waitingCount" "I") (List.mem_of_getElem? (i := 1) rfl)) rfl (by decide +kernel) rfl rfl (Nat.le_of_ble_eq_true rfl) (upS z0 9 0) rfl (enC_S9 _ _ _ _) dX5_check_7 (fun H locs hH => ?_)
  obtain ⟨z153, hz153⟩ : ∃ w : zS, w = upS z0 9 0 := ⟨_, rfl⟩
  rw [← hz153] at hH
  have hJ : jJ IvC 512 72057594037927936 0 z0 z153 := by rw [hz153]; exact jJ_S hJ (by decide) (IvC_S9 hJ.1 (iv_w (iv_lit (n := 0) 0 (by decide)) (by decide) (by decide)))
  have g154 : iv 0 0 (z153.1 9) := by rw [hz153]; exact (iv_lit (n := 0) 0 (by decide))
  refine lv_iload_n hx hb dX5_check_10 rfl (lv_at hl 0 rfl) ?_
  refine lv_aload_n hx hb dX5_check_11 rfl (lv_at hl 1 rfl) ?_
  refine b_get (ci := 5) (C := RX5) (T := TX5) (Nf := 12) (v := .ref (q 1)) hx hb hts in_X5_check_X5 hown hK hH 0 (by decide) rfl rfl 0 (by decide) (hts (.fieldLink RX5 12 "StationLine" "bench" "LStationLine$Bench;") (List.mem_of_getElem? (i := 2) rfl)) rfl dX5_check_12 ?_
  refine b_get (ci := 0) (C := RX0) (T := TX0) (Nf := 11) (v := .int (z153.1 0)) hx hb hts in_X5_check_X0 hown hK hH 1 (by decide) rfl rfl 0 (by decide) (hts (.fieldLink RX5 70 "StationLine$Bench" "size" "I") (List.mem_of_getElem? (i := 3) rfl)) rfl dX5_check_15 ?_
  have i155 := IvC_s0 hJ.1
  have := i155.1; have := i155.2
  refine lv_icmp_eq (tgt := 24) hx hb dX5_check_18 (by decide) (fun c156 => ?_) (fun c156 => ?_)
  · skip
    have r156 := (iv_Eq c156)
    have k157a : iv 0 10 (z0.1 9) := iv_eql (iv_Eq c156) i152 i155 (by decide) (by decide)
    refine lv_iconst (v := 0) hx hb dX5_check_24 (by decide) ?_
    refine lv_istore_n (lv' := [(2, .int 0), (1, .int (z0.1 9)), (0, .ref (q 0))]) hx hb dX5_check_25 rfl hl (by decide) rfl (fun ls hl => ?_)
    exact HL26 _ (z0.1 9) 0 z153 H locs ls k157a (iv_w (iv_lit (n := 0) 0 (by decide)) (by decide) (by decide)) g154 ⟨fun j hj => absurd hj (by have e : (0 : Int32).toInt = 0 := (by decide); omega), by rw [hz153]; rfl⟩ hJ hH (lv_sub hl [2, 1, 0] rfl) rfl
  · skip
    have r156 := (iv_nEq c156)
    refine lv_bipush (v := (-2)) hx hb dX5_check_21 (by decide) ?_
    exact hret _ z153 H locs _ _ ⟨hJ, (iv_w (iv_lit (n := (-2)) (-2) (by decide)) (by decide) (by decide)), (by rw [hz153]; rfl)⟩ hH dX5_check_23
