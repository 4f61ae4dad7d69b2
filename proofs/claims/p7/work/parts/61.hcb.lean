set_option maxHeartbeats 4000000 in
set_option maxRecDepth 100000 in
theorem g_X0_unlink_1 (l : Launch) (D : va_G) (cy : Nat → ClassId) (q : Nat → Nat) (hq : bJ 66 q) (z0 : zS) (hI : IvC z0) (p0 : Int32) (hp0 : iv 0 9 p0) (p1 : Int32) (hp1 : iv 0 9 p1) : bCi l yX0_unlink wsX0_unlink ({ frames := 2, cells := 0, slots := 0, locals := 62 }) D cy 66 (enC cy) q z0 [.ref (q 1), .int p0, .int p1] (fun v z => jJ IvC 0 896 0 z0 z ∧ iv 0 1 v ∧ (UlP (z0.2.1 7) p0 p1 v (z.2.1 7)) ∧ (LdI (z0.2.1 7) (z0.1 0).toNatClampNeg (z0.2.1 8) → LdI (z.2.1 7) (z0.1 0).toNatClampNeg (z.2.1 8))) := by
  refine hM_z cX0_unlink (by decide) rfl (own := RX0) rfl hq (Nat.le_of_ble_eq_true rfl) ?_
  intro p e s m args below meth c Q ls H locs hx hb hml hown hts hK hZ hH hl hret
  have hl : lv_has ls 3 [(0, .ref (q 1)), (1, .int p0), (2, .int p1)] := hl
  have hJ : jJ IvC 0 896 0 z0 z0 := jJ_rf _ _ _ hI
  refine lv_aload_n hx hb dX0_unlink_0 rfl (lv_at hl 0 rfl) ?_
  refine b_get (ci := 0) (C := RX0) (T := TX0) (Nf := 11) (v := .ref (q 7)) hx hb hts in_X0_unlink_X0 hown hK hH 1 (by decide) rfl rfl 5 (by decide) (hts (.fieldLink RX0 30 "StationLine$Bench" "before" "[I") (List.mem_of_getElem? (i := 1) rfl)) rfl dX0_unlink_1 ?_
  refine lv_iload_n hx hb dX0_unlink_4 rfl (lv_at hl 2 rfl) ?_
  refine b_iald (v := z0.2.1 7 (p1 : Int32).toNatClampNeg) hx hb hK hH 7 (by decide) rfl (iv_in hp1 (by decide) (by decide)) rfl dX0_unlink_5 ?_
  refine lv_iconst (v := 1) hx hb dX0_unlink_6 (by decide) ?_
  refine lv_iload_n hx hb dX0_unlink_7 rfl (lv_at hl 1 rfl) ?_
  refine lv_ishl hx hb dX0_unlink_8 ?_
  have i11 : iv 1 512 ((1 : Int32) <<< (p0 &&& 31)) := (iv_bit hp0 (by decide) (by decide))
  refine lv_iand hx hb dX0_unlink_9 ?_
  have i12 : iv 0 512 ((z0.2.1 7 (p1 : Int32).toNatClampNeg) &&& ((1 : Int32) <<< (p0 &&& 31))) := (iv_and2 (iv_all (z0.2.1 7 (p1 : Int32).toNatClampNeg)) i11 (by decide) (by decide))
  refine lv_if_ne (tgt := 15) hx hb dX0_unlink_10 (by decide) (fun c13 => ?_) (fun c13 => ?_)
  · skip
    have k14a : iv 1 512 ((z0.2.1 7 (p1 : Int32).toNatClampNeg) &&& ((1 : Int32) <<< (p0 &&& 31))) := iv_neLo (iv_nEq c13) i12 (by decide) (by decide)
    refine lv_aload_n hx hb dX0_unlink_15 rfl (lv_at hl 0 rfl) ?_
    refine b_get (ci := 0) (C := RX0) (T := TX0) (Nf := 11) (v := .ref (q 7)) hx hb hts in_X0_unlink_X0 hown hK hH 1 (by decide) rfl rfl 5 (by decide) (hts (.fieldLink RX0 30 "StationLine$Bench" "before" "[I") (List.mem_of_getElem? (i := 1) rfl)) rfl dX0_unlink_16 ?_
    refine lv_iload_n hx hb dX0_unlink_19 rfl (lv_at hl 2 rfl) ?_
    refine lv_dup2_11 hx hb dX0_unlink_20 rfl rfl ?_
    refine b_iald (v := z0.2.1 7 (p1 : Int32).toNatClampNeg) hx hb hK hH 7 (by decide) rfl (iv_in hp1 (by decide) (by decide)) rfl dX0_unlink_21 ?_
    refine lv_iconst (v := 1) hx hb dX0_unlink_22 (by decide) ?_
    refine lv_iload_n hx hb dX0_unlink_23 rfl (lv_at hl 1 rfl) ?_
    refine lv_ishl hx hb dX0_unlink_24 ?_
    have i15 : iv 1 512 ((1 : Int32) <<< (p0 &&& 31)) := (iv_bit hp0 (by decide) (by decide))
    refine lv_iconst (v := (-1)) hx hb dX0_unlink_25 (by decide) ?_
    refine lv_ixor hx hb dX0_unlink_26 ?_
    refine lv_iand hx hb dX0_unlink_27 ?_
    refine b_iast hx hb hK hH 7 (by decide) rfl (iv_in hp1 (by decide) (by decide)) (upA z0 7 (upd (z0.2.1 7) (p1 : Int32).toNatClampNeg ((z0.2.1 7 (p1 : Int32).toNatClampNeg) &&& (((1 : Int32) <<< (p0 &&& 31)) ^^^ (-1))))) rfl (enC_A _ _ _ _ _) dX0_unlink_28 (fun H locs hH => ?_)
    obtain ⟨z18, hz18⟩ : ∃ w : zS, w = upA z0 7 (upd (z0.2.1 7) (p1 : Int32).toNatClampNeg ((z0.2.1 7 (p1 : Int32).toNatClampNeg) &&& (((1 : Int32) <<< (p0 &&& 31)) ^^^ (-1)))) := ⟨_, rfl⟩
    rw [← hz18] at hH
    have hJ : jJ IvC 0 896 0 z0 z18 := by rw [hz18]; exact jJ_A hJ (by decide) (IvC_A hJ.1 (by decide))
    refine lv_aload_n hx hb dX0_unlink_29 rfl (lv_at hl 0 rfl) ?_
    refine b_callv (As := []) (rest := []) ⟨hx, hb, hml, hown, hts⟩ 1 0 (g_X0_closeOver_1 l D cy q hH.2.1 z18 hJ.1 ) (cwV 0 hts gX0_unlink_X0_closeOver rfl rfl rfl (by decide +kernel) ⟨Nat.le_of_ble_eq_true rfl, Nat.le_of_ble_eq_true rfl⟩) hK hZ hH (by decide) rfl rfl rfl hl.1 rfl (Nat.le_of_ble_eq_true rfl) ⟨Nat.zero_le _, Nat.zero_le _⟩ dX0_unlink_30 (fun z19 H locs hp hH => ?_)
    have hJ := jJ_tr hJ hp.1 (by decide) (by decide) (by decide)
    have f19_0 := hp.2
    have hA19 := hp.1.2
    refine lv_iconst (v := 1) hx hb dX0_unlink_33 (by decide) ?_
    exact hret _ z19 H locs _ _ (iv_w (iv_lit (n := 1) 1 (by decide)) (by decide) (by decide)) ⟨hJ, (iv_w (iv_lit (n := 1) 1 (by decide)) (by decide) (by decide)), ⟨fun _ => ⟨rfl, (((hA19.2.1 7 (by decide)))).trans (show z18.2.1 7 = _ by rw [hz18]; exact upA_e)⟩, fun q => absurd (bit_ne hp0 c13) q⟩, fun _ => (by have h9 := f19_0; rw [show z18.1 0 = z0.1 0 by rw [hz18]; rfl] at h9; rw [((hA19.2.1 7 (by decide)))]; exact h9)⟩ hH dX0_unlink_34
  · skip
    have k20a : iv 0 0 ((z0.2.1 7 (p1 : Int32).toNatClampNeg) &&& ((1 : Int32) <<< (p0 &&& 31))) := iv_eql (iv_Eq c13) i12 (iv_lit (n := 0) 0 (by decide)) (by decide) (by decide)
    refine lv_iconst (v := 0) hx hb dX0_unlink_13 (by decide) ?_
    exact hret _ z0 H locs _ _ (iv_w (iv_lit (n := 0) 0 (by decide)) (by decide) (by decide)) ⟨hJ, (iv_w (iv_lit (n := 0) 0 (by decide)) (by decide) (by decide)), ⟨fun q => absurd q (bit_eq hp0 c13), fun _ => ⟨rfl, rfl⟩⟩, fun h => h⟩ hH dX0_unlink_14
set_option maxHeartbeats 4000000 in
set_option maxRecDepth 100000 in
theorem g_X0_pairing_1 (l : Launch) (D : va_G) (cy : Nat → ClassId) (q : Nat → Nat) (hq : bJ 66 q) (z0 : zS) (hI : IvC z0) (p0 : Int32) (hp0 : iv 0 9 p0) (p1 : Int32) (hp1 : iv 0 9 p1) : bCi l yX0_pairing wsX0_pairing ({ frames := 0, cells := 0, slots := 0, locals := 0 }) D cy 66 (enC cy) q z0 [.ref (q 1), .int p0, .int p1] (fun v z => jJ IvC 0 0 0 z0 z ∧ iv 0 2 v ∧ (v = pairF (z0.2.1 10 p0.toNatClampNeg) (z0.2.1 11 p0.toNatClampNeg) p1.toNatClampNeg)) := by
  refine hM_i cX0_pairing (by decide) rfl (own := RX0) rfl hq (Nat.le_of_ble_eq_true rfl) ?_
  intro p e s m args below meth c Q ls H locs hx hb hml hown hts hK hZ hH hl hret
  have hl : lv_has ls 3 [(0, .ref (q 1)), (1, .int p0), (2, .int p1)] := hl
  have hJ : jJ IvC 0 0 0 z0 z0 := jJ_rf _ _ _ hI
  refine lv_aload_n hx hb dX0_pairing_0 rfl (lv_at hl 0 rfl) ?_
  refine b_get (ci := 0) (C := RX0) (T := TX0) (Nf := 11) (v := .ref (q 10)) hx hb hts in_X0_pairing_X0 hown hK hH 1 (by decide) rfl rfl 8 (by decide) (hts (.fieldLink RX0 39 "StationLine$Bench" "together" "[I") (List.mem_of_getElem? (i := 1) rfl)) rfl dX0_pairing_1 ?_
  refine lv_iload_n hx hb dX0_pairing_4 rfl (lv_at hl 1 rfl) ?_
  refine b_iald (v := z0.2.1 10 (p0 : Int32).toNatClampNeg) hx hb hK hH 10 (by decide) rfl (iv_in hp0 (by decide) (by decide)) rfl dX0_pairing_5 ?_
  refine lv_iconst (v := 1) hx hb dX0_pairing_6 (by decide) ?_
  refine lv_iload_n hx hb dX0_pairing_7 rfl (lv_at hl 2 rfl) ?_
  refine lv_ishl hx hb dX0_pairing_8 ?_
  have i11 : iv 1 512 ((1 : Int32) <<< (p1 &&& 31)) := (iv_bit hp1 (by decide) (by decide))
  refine lv_iand hx hb dX0_pairing_9 ?_
  have i12 : iv 0 512 ((z0.2.1 10 (p0 : Int32).toNatClampNeg) &&& ((1 : Int32) <<< (p1 &&& 31))) := (iv_and2 (iv_all (z0.2.1 10 (p0 : Int32).toNatClampNeg)) i11 (by decide) (by decide))
  refine lv_if_eq (tgt := 15) hx hb dX0_pairing_10 (by decide) (fun c13 => ?_) (fun c13 => ?_)
  · skip
    have k14a : iv 0 0 ((z0.2.1 10 (p0 : Int32).toNatClampNeg) &&& ((1 : Int32) <<< (p1 &&& 31))) := iv_eql (iv_Eq c13) i12 (iv_lit (n := 0) 0 (by decide)) (by decide) (by decide)
    refine lv_aload_n hx hb dX0_pairing_15 rfl (lv_at hl 0 rfl) ?_
    refine b_get (ci := 0) (C := RX0) (T := TX0) (Nf := 11) (v := .ref (q 11)) hx hb hts in_X0_pairing_X0 hown hK hH 1 (by decide) rfl rfl 9 (by decide) (hts (.fieldLink RX0 42 "StationLine$Bench" "apart" "[I") (List.mem_of_getElem? (i := 2) rfl)) rfl dX0_pairing_16 ?_
    refine lv_iload_n hx hb dX0_pairing_19 rfl (lv_at hl 1 rfl) ?_
    refine b_iald (v := z0.2.1 11 (p0 : Int32).toNatClampNeg) hx hb hK hH 11 (by decide) rfl (iv_in hp0 (by decide) (by decide)) rfl dX0_pairing_20 ?_
    refine lv_iconst (v := 1) hx hb dX0_pairing_21 (by decide) ?_
    refine lv_iload_n hx hb dX0_pairing_22 rfl (lv_at hl 2 rfl) ?_
    refine lv_ishl hx hb dX0_pairing_23 ?_
    have i15 : iv 1 512 ((1 : Int32) <<< (p1 &&& 31)) := (iv_bit hp1 (by decide) (by decide))
    refine lv_iand hx hb dX0_pairing_24 ?_
    have i16 : iv 0 512 ((z0.2.1 11 (p0 : Int32).toNatClampNeg) &&& ((1 : Int32) <<< (p1 &&& 31))) := (iv_and2 (iv_all (z0.2.1 11 (p0 : Int32).toNatClampNeg)) i15 (by decide) (by decide))
    refine lv_if_eq (tgt := 32) hx hb dX0_pairing_25 (by decide) (fun c17 => ?_) (fun c17 => ?_)
    · skip
      have k18a : iv 0 0 ((z0.2.1 11 (p0 : Int32).toNatClampNeg) &&& ((1 : Int32) <<< (p1 &&& 31))) := iv_eql (iv_Eq c17) i16 (iv_lit (n := 0) 0 (by decide)) (by decide) (by decide)
      refine lv_iconst (v := 0) hx hb dX0_pairing_32 (by decide) ?_
      exact hret _ z0 H locs _ _ ⟨hJ, (iv_w (iv_lit (n := 0) 0 (by decide)) (by decide) (by decide)), (pf_0 hp1 c13 c17)⟩ hH dX0_pairing_33
    · skip
      have k19a : iv 1 512 ((z0.2.1 11 (p0 : Int32).toNatClampNeg) &&& ((1 : Int32) <<< (p1 &&& 31))) := iv_neLo (iv_nEq c17) i16 (by decide) (by decide)
      refine lv_iconst (v := 2) hx hb dX0_pairing_28 (by decide) ?_
      refine lv_goto (tgt := 33) hx hb dX0_pairing_29 (by decide) ?_
      exact hret _ z0 H locs _ _ ⟨hJ, (iv_w (iv_lit (n := 2) 2 (by decide)) (by decide) (by decide)), (pf_2 hp1 c13 c17)⟩ hH dX0_pairing_33
  · skip
    have k20a : iv 1 512 ((z0.2.1 10 (p0 : Int32).toNatClampNeg) &&& ((1 : Int32) <<< (p1 &&& 31))) := iv_neLo (iv_nEq c13) i12 (by decide) (by decide)
    refine lv_iconst (v := 1) hx hb dX0_pairing_13 (by decide) ?_
    exact hret _ z0 H locs _ _ ⟨hJ, (iv_w (iv_lit (n := 1) 1 (by decide)) (by decide) (by decide)), (pf_1 hp1 c13)⟩ hH dX0_pairing_14
set_option maxHeartbeats 4000000 in
set_option maxRecDepth 100000 in
theorem g_X0_mark_10 (l : Launch) (D : va_G) (cy : Nat → ClassId) (q : Nat → Nat) (hq : bJ 66 q) (z0 : zS) (hI : IvC z0) (p1 : Int32) (hp1 : iv 0 9 p1) (p2 : Int32) (hp2 : iv 0 9 p2) (p3 : Int32) (hp3 : iv 0 1 p3) : bCv l yX0_mark wsX0_mark ({ frames := 0, cells := 0, slots := 0, locals := 0 }) D cy 66 (enC cy) q z0 [.ref (q 10), .int p1, .int p2, .int p3] (fun z => jJ IvC 0 1024 0 z0 z ∧ (MkQ (z0.2.1 10) p1 p2 (decide (¬ p3 = 0)) (z.2.1 10))) := by
  refine hM_v cX0_mark (by decide) rfl (own := RX0) rfl hq (Nat.le_of_ble_eq_true rfl) ?_
  intro p e s m args below meth c Q ls H locs hx hb hml hown hts hK hZ hH hl hret
  have hl : lv_has ls 4 [(0, .ref (q 10)), (1, .int p1), (2, .int p2), (3, .int p3)] := hl
  have hJ : jJ IvC 0 1024 0 z0 z0 := jJ_rf _ _ _ hI
  refine lv_aload_n hx hb dX0_mark_0 rfl (lv_at hl 0 rfl) ?_
  refine lv_iload_n hx hb dX0_mark_1 rfl (lv_at hl 1 rfl) ?_
  refine lv_iload_n hx hb dX0_mark_2 rfl (lv_at hl 3 rfl) ?_
  refine lv_if_eq (tgt := 16) hx hb dX0_mark_3 (by decide) (fun c22 => ?_) (fun c22 => ?_)
  · skip
    have k23a : iv 0 0 p3 := iv_eql (iv_Eq c22) hp3 (iv_lit (n := 0) 0 (by decide)) (by decide) (by decide)
    refine lv_aload_n hx hb dX0_mark_16 rfl (lv_at hl 0 rfl) ?_
    refine lv_iload_n hx hb dX0_mark_17 rfl (lv_at hl 1 rfl) ?_
    refine b_iald (v := z0.2.1 10 (p1 : Int32).toNatClampNeg) hx hb hK hH 10 (by decide) rfl (iv_in hp1 (by decide) (by decide)) rfl dX0_mark_18 ?_
    refine lv_iconst (v := 1) hx hb dX0_mark_19 (by decide) ?_
    refine lv_iload_n hx hb dX0_mark_20 rfl (lv_at hl 2 rfl) ?_
    refine lv_ishl hx hb dX0_mark_21 ?_
    have i24 : iv 1 512 ((1 : Int32) <<< (p2 &&& 31)) := (iv_bit hp2 (by decide) (by decide))
    refine lv_iconst (v := (-1)) hx hb dX0_mark_22 (by decide) ?_
    refine lv_ixor hx hb dX0_mark_23 ?_
    refine lv_iand hx hb dX0_mark_24 ?_
    refine b_iast hx hb hK hH 10 (by decide) rfl (iv_in hp1 (by decide) (by decide)) (upA z0 10 (upd (z0.2.1 10) (p1 : Int32).toNatClampNeg ((z0.2.1 10 (p1 : Int32).toNatClampNeg) &&& (((1 : Int32) <<< (p2 &&& 31)) ^^^ (-1))))) rfl (enC_A _ _ _ _ _) dX0_mark_25 (fun H locs hH => ?_)
    obtain ⟨z27, hz27⟩ : ∃ w : zS, w = upA z0 10 (upd (z0.2.1 10) (p1 : Int32).toNatClampNeg ((z0.2.1 10 (p1 : Int32).toNatClampNeg) &&& (((1 : Int32) <<< (p2 &&& 31)) ^^^ (-1)))) := ⟨_, rfl⟩
    rw [← hz27] at hH
    have hJ : jJ IvC 0 1024 0 z0 z27 := by rw [hz27]; exact jJ_A hJ (by decide) (IvC_A hJ.1 (by decide))
    refine lv_aload_n hx hb dX0_mark_26 rfl (lv_at hl 0 rfl) ?_
    refine lv_iload_n hx hb dX0_mark_27 rfl (lv_at hl 2 rfl) ?_
    refine lv_iload_n hx hb dX0_mark_28 rfl (lv_at hl 3 rfl) ?_
    refine lv_if_eq (tgt := 42) hx hb dX0_mark_29 (by decide) (fun c28 => ?_) (fun c28 => ?_)
    · skip
      refine lv_aload_n hx hb dX0_mark_42 rfl (lv_at hl 0 rfl) ?_
      refine lv_iload_n hx hb dX0_mark_43 rfl (lv_at hl 2 rfl) ?_
      refine b_iald (v := z27.2.1 10 (p2 : Int32).toNatClampNeg) hx hb hK hH 10 (by decide) rfl (iv_in hp2 (by decide) (by decide)) rfl dX0_mark_44 ?_
      refine lv_iconst (v := 1) hx hb dX0_mark_45 (by decide) ?_
      refine lv_iload_n hx hb dX0_mark_46 rfl (lv_at hl 1 rfl) ?_
      refine lv_ishl hx hb dX0_mark_47 ?_
      have i30 : iv 1 512 ((1 : Int32) <<< (p1 &&& 31)) := (iv_bit hp1 (by decide) (by decide))
      refine lv_iconst (v := (-1)) hx hb dX0_mark_48 (by decide) ?_
      refine lv_ixor hx hb dX0_mark_49 ?_
      refine lv_iand hx hb dX0_mark_50 ?_
      refine b_iast hx hb hK hH 10 (by decide) rfl (iv_in hp2 (by decide) (by decide)) (upA z27 10 (upd (z27.2.1 10) (p2 : Int32).toNatClampNeg ((z27.2.1 10 (p2 : Int32).toNatClampNeg) &&& (((1 : Int32) <<< (p1 &&& 31)) ^^^ (-1))))) rfl (enC_A _ _ _ _ _) dX0_mark_51 (fun H locs hH => ?_)
      obtain ⟨z33, hz33⟩ : ∃ w : zS, w = upA z27 10 (upd (z27.2.1 10) (p2 : Int32).toNatClampNeg ((z27.2.1 10 (p2 : Int32).toNatClampNeg) &&& (((1 : Int32) <<< (p1 &&& 31)) ^^^ (-1)))) := ⟨_, rfl⟩
      rw [← hz33] at hH
      have hJ : jJ IvC 0 1024 0 z0 z33 := by rw [hz33]; exact jJ_A hJ (by decide) (IvC_A hJ.1 (by decide))
      exact hret z33 H locs _ _ ⟨hJ, (mq_eq (mk_two hp1 hp2 false (show z27.2.1 10 = _ by rw [hz27]; exact upA_e) (show z33.2.1 10 = _ by rw [hz33]; exact upA_e) (off_bit hp2) (off_bit hp1)) (decide_eq_false (fun n => n c22)).symm)⟩ hH dX0_mark_52
    · skip
      exact absurd (iv_nEq c28) (by have := k23a.1; have := k23a.2; have := (iv_lit (n := 0) 0 (by decide)).1; have := (iv_lit (n := 0) 0 (by decide)).2; omega)
  · skip
    have k34a : iv 1 1 p3 := iv_neLo (iv_nEq c22) hp3 (by decide) (by decide)
    refine lv_aload_n hx hb dX0_mark_6 rfl (lv_at hl 0 rfl) ?_
    refine lv_iload_n hx hb dX0_mark_7 rfl (lv_at hl 1 rfl) ?_
    refine b_iald (v := z0.2.1 10 (p1 : Int32).toNatClampNeg) hx hb hK hH 10 (by decide) rfl (iv_in hp1 (by decide) (by decide)) rfl dX0_mark_8 ?_
    refine lv_iconst (v := 1) hx hb dX0_mark_9 (by decide) ?_
    refine lv_iload_n hx hb dX0_mark_10 rfl (lv_at hl 2 rfl) ?_
    refine lv_ishl hx hb dX0_mark_11 ?_
    have i35 : iv 1 512 ((1 : Int32) <<< (p2 &&& 31)) := (iv_bit hp2 (by decide) (by decide))
    refine lv_ior hx hb dX0_mark_12 ?_
    refine lv_goto (tgt := 25) hx hb dX0_mark_13 (by decide) ?_
    refine b_iast hx hb hK hH 10 (by decide) rfl (iv_in hp1 (by decide) (by decide)) (upA z0 10 (upd (z0.2.1 10) (p1 : Int32).toNatClampNeg ((z0.2.1 10 (p1 : Int32).toNatClampNeg) ||| ((1 : Int32) <<< (p2 &&& 31))))) rfl (enC_A _ _ _ _ _) dX0_mark_25 (fun H locs hH => ?_)
    obtain ⟨z37, hz37⟩ : ∃ w : zS, w = upA z0 10 (upd (z0.2.1 10) (p1 : Int32).toNatClampNeg ((z0.2.1 10 (p1 : Int32).toNatClampNeg) ||| ((1 : Int32) <<< (p2 &&& 31)))) := ⟨_, rfl⟩
    rw [← hz37] at hH
    have hJ : jJ IvC 0 1024 0 z0 z37 := by rw [hz37]; exact jJ_A hJ (by decide) (IvC_A hJ.1 (by decide))
    refine lv_aload_n hx hb dX0_mark_26 rfl (lv_at hl 0 rfl) ?_
    refine lv_iload_n hx hb dX0_mark_27 rfl (lv_at hl 2 rfl) ?_
    refine lv_iload_n hx hb dX0_mark_28 rfl (lv_at hl 3 rfl) ?_
    refine lv_if_eq (tgt := 42) hx hb dX0_mark_29 (by decide) (fun c38 => ?_) (fun c38 => ?_)
    · skip
      exact absurd (iv_Eq c38) (by have := k34a.1; have := k34a.2; have := (iv_lit (n := 0) 0 (by decide)).1; have := (iv_lit (n := 0) 0 (by decide)).2; omega)
    · skip
      refine lv_aload_n hx hb dX0_mark_32 rfl (lv_at hl 0 rfl) ?_
      refine lv_iload_n hx hb dX0_mark_33 rfl (lv_at hl 2 rfl) ?_
      refine b_iald (v := z37.2.1 10 (p2 : Int32).toNatClampNeg) hx hb hK hH 10 (by decide) rfl (iv_in hp2 (by decide) (by decide)) rfl dX0_mark_34 ?_
      refine lv_iconst (v := 1) hx hb dX0_mark_35 (by decide) ?_
      refine lv_iload_n hx hb dX0_mark_36 rfl (lv_at hl 1 rfl) ?_
      refine lv_ishl hx hb dX0_mark_37 ?_
      have i40 : iv 1 512 ((1 : Int32) <<< (p1 &&& 31)) := (iv_bit hp1 (by decide) (by decide))
      refine lv_ior hx hb dX0_mark_38 ?_
      refine lv_goto (tgt := 51) hx hb dX0_mark_39 (by decide) ?_
      refine b_iast hx hb hK hH 10 (by decide) rfl (iv_in hp2 (by decide) (by decide)) (upA z37 10 (upd (z37.2.1 10) (p2 : Int32).toNatClampNeg ((z37.2.1 10 (p2 : Int32).toNatClampNeg) ||| ((1 : Int32) <<< (p1 &&& 31))))) rfl (enC_A _ _ _ _ _) dX0_mark_51 (fun H locs hH => ?_)
      obtain ⟨z42, hz42⟩ : ∃ w : zS, w = upA z37 10 (upd (z37.2.1 10) (p2 : Int32).toNatClampNeg ((z37.2.1 10 (p2 : Int32).toNatClampNeg) ||| ((1 : Int32) <<< (p1 &&& 31)))) := ⟨_, rfl⟩
      rw [← hz42] at hH
      have hJ : jJ IvC 0 1024 0 z0 z42 := by rw [hz42]; exact jJ_A hJ (by decide) (IvC_A hJ.1 (by decide))
      exact hret z42 H locs _ _ ⟨hJ, (mq_eq (mk_two hp1 hp2 true (show z37.2.1 10 = _ by rw [hz37]; exact upA_e) (show z42.2.1 10 = _ by rw [hz42]; exact upA_e) (on_bit hp2) (on_bit hp1)) (decide_eq_true c22).symm)⟩ hH dX0_mark_52
set_option maxHeartbeats 4000000 in
set_option maxRecDepth 100000 in
theorem g_X0_mark_11 (l : Launch) (D : va_G) (cy : Nat → ClassId) (q : Nat → Nat) (hq : bJ 66 q) (z0 : zS) (hI : IvC z0) (p1 : Int32) (hp1 : iv 0 9 p1) (p2 : Int32) (hp2 : iv 0 9 p2) (p3 : Int32) (hp3 : iv 0 1 p3) : bCv l yX0_mark wsX0_mark ({ frames := 0, cells := 0, slots := 0, locals := 0 }) D cy 66 (enC cy) q z0 [.ref (q 11), .int p1, .int p2, .int p3] (fun z => jJ IvC 0 2048 0 z0 z ∧ (MkQ (z0.2.1 11) p1 p2 (decide (¬ p3 = 0)) (z.2.1 11))) := by
  refine hM_v cX0_mark (by decide) rfl (own := RX0) rfl hq (Nat.le_of_ble_eq_true rfl) ?_
  intro p e s m args below meth c Q ls H locs hx hb hml hown hts hK hZ hH hl hret
  have hl : lv_has ls 4 [(0, .ref (q 11)), (1, .int p1), (2, .int p2), (3, .int p3)] := hl
  have hJ : jJ IvC 0 2048 0 z0 z0 := jJ_rf _ _ _ hI
  refine lv_aload_n hx hb dX0_mark_0 rfl (lv_at hl 0 rfl) ?_
  refine lv_iload_n hx hb dX0_mark_1 rfl (lv_at hl 1 rfl) ?_
  refine lv_iload_n hx hb dX0_mark_2 rfl (lv_at hl 3 rfl) ?_
  refine lv_if_eq (tgt := 16) hx hb dX0_mark_3 (by decide) (fun c22 => ?_) (fun c22 => ?_)
  · skip
    have k23a : iv 0 0 p3 := iv_eql (iv_Eq c22) hp3 (iv_lit (n := 0) 0 (by decide)) (by decide) (by decide)
    refine lv_aload_n hx hb dX0_mark_16 rfl (lv_at hl 0 rfl) ?_
    refine lv_iload_n hx hb dX0_mark_17 rfl (lv_at hl 1 rfl) ?_
    refine b_iald (v := z0.2.1 11 (p1 : Int32).toNatClampNeg) hx hb hK hH 11 (by decide) rfl (iv_in hp1 (by decide) (by decide)) rfl dX0_mark_18 ?_
    refine lv_iconst (v := 1) hx hb dX0_mark_19 (by decide) ?_
    refine lv_iload_n hx hb dX0_mark_20 rfl (lv_at hl 2 rfl) ?_
    refine lv_ishl hx hb dX0_mark_21 ?_
    have i24 : iv 1 512 ((1 : Int32) <<< (p2 &&& 31)) := (iv_bit hp2 (by decide) (by decide))
    refine lv_iconst (v := (-1)) hx hb dX0_mark_22 (by decide) ?_
    refine lv_ixor hx hb dX0_mark_23 ?_
    refine lv_iand hx hb dX0_mark_24 ?_
    refine b_iast hx hb hK hH 11 (by decide) rfl (iv_in hp1 (by decide) (by decide)) (upA z0 11 (upd (z0.2.1 11) (p1 : Int32).toNatClampNeg ((z0.2.1 11 (p1 : Int32).toNatClampNeg) &&& (((1 : Int32) <<< (p2 &&& 31)) ^^^ (-1))))) rfl (enC_A _ _ _ _ _) dX0_mark_25 (fun H locs hH => ?_)
    obtain ⟨z27, hz27⟩ : ∃ w : zS, w = upA z0 11 (upd (z0.2.1 11) (p1 : Int32).toNatClampNeg ((z0.2.1 11 (p1 : Int32).toNatClampNeg) &&& (((1 : Int32) <<< (p2 &&& 31)) ^^^ (-1)))) := ⟨_, rfl⟩
    rw [← hz27] at hH
    have hJ : jJ IvC 0 2048 0 z0 z27 := by rw [hz27]; exact jJ_A hJ (by decide) (IvC_A hJ.1 (by decide))
    refine lv_aload_n hx hb dX0_mark_26 rfl (lv_at hl 0 rfl) ?_
    refine lv_iload_n hx hb dX0_mark_27 rfl (lv_at hl 2 rfl) ?_
    refine lv_iload_n hx hb dX0_mark_28 rfl (lv_at hl 3 rfl) ?_
    refine lv_if_eq (tgt := 42) hx hb dX0_mark_29 (by decide) (fun c28 => ?_) (fun c28 => ?_)
    · skip
      refine lv_aload_n hx hb dX0_mark_42 rfl (lv_at hl 0 rfl) ?_
      refine lv_iload_n hx hb dX0_mark_43 rfl (lv_at hl 2 rfl) ?_
      refine b_iald (v := z27.2.1 11 (p2 : Int32).toNatClampNeg) hx hb hK hH 11 (by decide) rfl (iv_in hp2 (by decide) (by decide)) rfl dX0_mark_44 ?_
      refine lv_iconst (v := 1) hx hb dX0_mark_45 (by decide) ?_
      refine lv_iload_n hx hb dX0_mark_46 rfl (lv_at hl 1 rfl) ?_
      refine lv_ishl hx hb dX0_mark_47 ?_
      have i30 : iv 1 512 ((1 : Int32) <<< (p1 &&& 31)) := (iv_bit hp1 (by decide) (by decide))
      refine lv_iconst (v := (-1)) hx hb dX0_mark_48 (by decide) ?_
      refine lv_ixor hx hb dX0_mark_49 ?_
      refine lv_iand hx hb dX0_mark_50 ?_
      refine b_iast hx hb hK hH 11 (by decide) rfl (iv_in hp2 (by decide) (by decide)) (upA z27 11 (upd (z27.2.1 11) (p2 : Int32).toNatClampNeg ((z27.2.1 11 (p2 : Int32).toNatClampNeg) &&& (((1 : Int32) <<< (p1 &&& 31)) ^^^ (-1))))) rfl (enC_A _ _ _ _ _) dX0_mark_51 (fun H locs hH => ?_)
      obtain ⟨z33, hz33⟩ : ∃ w : zS, w = upA z27 11 (upd (z27.2.1 11) (p2 : Int32).toNatClampNeg ((z27.2.1 11 (p2 : Int32).toNatClampNeg) &&& (((1 : Int32) <<< (p1 &&& 31)) ^^^ (-1)))) := ⟨_, rfl⟩
      rw [← hz33] at hH
      have hJ : jJ IvC 0 2048 0 z0 z33 := by rw [hz33]; exact jJ_A hJ (by decide) (IvC_A hJ.1 (by decide))
      exact hret z33 H locs _ _ ⟨hJ, (mq_eq (mk_two hp1 hp2 false (show z27.2.1 11 = _ by rw [hz27]; exact upA_e) (show z33.2.1 11 = _ by rw [hz33]; exact upA_e) (off_bit hp2) (off_bit hp1)) (decide_eq_false (fun n => n c22)).symm)⟩ hH dX0_mark_52
    · skip
      exact absurd (iv_nEq c28) (by have := k23a.1; have := k23a.2; have := (iv_lit (n := 0) 0 (by decide)).1; have := (iv_lit (n := 0) 0 (by decide)).2; omega)
  · skip
    have k34a : iv 1 1 p3 := iv_neLo (iv_nEq c22) hp3 (by decide) (by decide)
    refine lv_aload_n hx hb dX0_mark_6 rfl (lv_at hl 0 rfl) ?_
    refine lv_iload_n hx hb dX0_mark_7 rfl (lv_at hl 1 rfl) ?_
    refine b_iald (v := z0.2.1 11 (p1 : Int32).toNatClampNeg) hx hb hK hH 11 (by decide) rfl (iv_in hp1 (by decide) (by decide)) rfl dX0_mark_8 ?_
    refine lv_iconst (v := 1) hx hb dX0_mark_9 (by decide) ?_
    refine lv_iload_n hx hb dX0_mark_10 rfl (lv_at hl 2 rfl) ?_
    refine lv_ishl hx hb dX0_mark_11 ?_
    have i35 : iv 1 512 ((1 : Int32) <<< (p2 &&& 31)) := (iv_bit hp2 (by decide) (by decide))
    refine lv_ior hx hb dX0_mark_12 ?_
    refine lv_goto (tgt := 25) hx hb dX0_mark_13 (by decide) ?_
    refine b_iast hx hb hK hH 11 (by decide) rfl (iv_in hp1 (by decide) (by decide)) (upA z0 11 (upd (z0.2.1 11) (p1 : Int32).toNatClampNeg ((z0.2.1 11 (p1 : Int32).toNatClampNeg) ||| ((1 : Int32) <<< (p2 &&& 31))))) rfl (enC_A _ _ _ _ _) dX0_mark_25 (fun H locs hH => ?_)
    obtain ⟨z37, hz37⟩ : ∃ w : zS, w = upA z0 11 (upd (z0.2.1 11) (p1 : Int32).toNatClampNeg ((z0.2.1 11 (p1 : Int32).toNatClampNeg) ||| ((1 : Int32) <<< (p2 &&& 31)))) := ⟨_, rfl⟩
    rw [← hz37] at hH
    have hJ : jJ IvC 0 2048 0 z0 z37 := by rw [hz37]; exact jJ_A hJ (by decide) (IvC_A hJ.1 (by decide))
    refine lv_aload_n hx hb dX0_mark_26 rfl (lv_at hl 0 rfl) ?_
    refine lv_iload_n hx hb dX0_mark_27 rfl (lv_at hl 2 rfl) ?_
    refine lv_iload_n hx hb dX0_mark_28 rfl (lv_at hl 3 rfl) ?_
    refine lv_if_eq (tgt := 42) hx hb dX0_mark_29 (by decide) (fun c38 => ?_) (fun c38 => ?_)
    · skip
      exact absurd (iv_Eq c38) (by have := k34a.1; have := k34a.2; have := (iv_lit (n := 0) 0 (by decide)).1; have := (iv_lit (n := 0) 0 (by decide)).2; omega)
    · skip
      refine lv_aload_n hx hb dX0_mark_32 rfl (lv_at hl 0 rfl) ?_
      refine lv_iload_n hx hb dX0_mark_33 rfl (lv_at hl 2 rfl) ?_
      refine b_iald (v := z37.2.1 11 (p2 : Int32).toNatClampNeg) hx hb hK hH 11 (by decide) rfl (iv_in hp2 (by decide) (by decide)) rfl dX0_mark_34 ?_
      refine lv_iconst (v := 1) hx hb dX0_mark_35 (by decide) ?_
      refine lv_iload_n hx hb dX0_mark_36 rfl (lv_at hl 1 rfl) ?_
      refine lv_ishl hx hb dX0_mark_37 ?_
      have i40 : iv 1 512 ((1 : Int32) <<< (p1 &&& 31)) := (iv_bit hp1 (by decide) (by decide))
      refine lv_ior hx hb dX0_mark_38 ?_
      refine lv_goto (tgt := 51) hx hb dX0_mark_39 (by decide) ?_
      refine b_iast hx hb hK hH 11 (by decide) rfl (iv_in hp2 (by decide) (by decide)) (upA z37 11 (upd (z37.2.1 11) (p2 : Int32).toNatClampNeg ((z37.2.1 11 (p2 : Int32).toNatClampNeg) ||| ((1 : Int32) <<< (p1 &&& 31))))) rfl (enC_A _ _ _ _ _) dX0_mark_51 (fun H locs hH => ?_)
      obtain ⟨z42, hz42⟩ : ∃ w : zS, w = upA z37 11 (upd (z37.2.1 11) (p2 : Int32).toNatClampNeg ((z37.2.1 11 (p2 : Int32).toNatClampNeg) ||| ((1 : Int32) <<< (p1 &&& 31)))) := ⟨_, rfl⟩
      rw [← hz42] at hH
      have hJ : jJ IvC 0 2048 0 z0 z42 := by rw [hz42]; exact jJ_A hJ (by decide) (IvC_A hJ.1 (by decide))
      exact hret z42 H locs _ _ ⟨hJ, (mq_eq (mk_two hp1 hp2 true (show z37.2.1 11 = _ by rw [hz37]; exact upA_e) (show z42.2.1 11 = _ by rw [hz42]; exact upA_e) (on_bit hp2) (on_bit hp1)) (decide_eq_true c22).symm)⟩ hH dX0_mark_52
set_option maxHeartbeats 4000000 in
set_option maxRecDepth 100000 in
theorem g_X0_pairUp_1 (l : Launch) (D : va_G) (cy : Nat → ClassId) (q : Nat → Nat) (hq : bJ 66 q) (z0 : zS) (hI : IvC z0) (p0 : Int32) (hp0 : iv 0 9 p0) (p1 : Int32) (hp1 : iv 0 9 p1) (p2 : Int32) : bCv l yX0_pairUp wsX0_pairUp ({ frames := 1, cells := 0, slots := 0, locals := 23 }) D cy 66 (enC cy) q z0 [.ref (q 1), .int p0, .int p1, .int p2] (fun z => jJ IvC 0 3072 0 z0 z ∧ (MkQ (z0.2.1 10) p0 p1 (decide (p2 = 1)) (z.2.1 10)) ∧ (MkQ (z0.2.1 11) p0 p1 (decide (p2 = 2)) (z.2.1 11))) := by
  refine hM_v cX0_pairUp (by decide) rfl (own := RX0) rfl hq (Nat.le_of_ble_eq_true rfl) ?_
  intro p e s m args below meth c Q ls H locs hx hb hml hown hts hK hZ hH hl hret
  have hl : lv_has ls 4 [(0, .ref (q 1)), (1, .int p0), (2, .int p1), (3, .int p2)] := hl
  have hJ : jJ IvC 0 3072 0 z0 z0 := jJ_rf _ _ _ hI
  refine lv_aload_n hx hb dX0_pairUp_0 rfl (lv_at hl 0 rfl) ?_
  refine b_get (ci := 0) (C := RX0) (T := TX0) (Nf := 11) (v := .ref (q 10)) hx hb hts in_X0_pairUp_X0 hown hK hH 1 (by decide) rfl rfl 8 (by decide) (hts (.fieldLink RX0 39 "StationLine$Bench" "together" "[I") (List.mem_of_getElem? (i := 1) rfl)) rfl dX0_pairUp_1 ?_
  refine lv_iload_n hx hb dX0_pairUp_4 rfl (lv_at hl 1 rfl) ?_
  refine lv_iload_n hx hb dX0_pairUp_5 rfl (lv_at hl 2 rfl) ?_
  refine lv_iload_n hx hb dX0_pairUp_6 rfl (lv_at hl 3 rfl) ?_
  refine lv_iconst (v := 1) hx hb dX0_pairUp_7 (by decide) ?_
  refine lv_icmp_ne (tgt := 15) hx hb dX0_pairUp_8 (by decide) (fun c14 => ?_) (fun c14 => ?_)
  · skip
    refine lv_iconst (v := 0) hx hb dX0_pairUp_15 (by decide) ?_
    refine b_statv (As := [.ref (q 10), .int p0, .int p1, .int 0]) (rest := []) ⟨hx, hb, hml, hown, hts⟩ (g_X0_mark_10 l D cy q hH.2.1 z0 hJ.1 p0 hp0 p1 hp1 0 (iv_w (iv_lit (n := 0) 0 (by decide)) (by decide) (by decide))) (va_cwS 4 hts gX0_pairUp_X0_mark rfl rfl rfl (by decide +kernel) ⟨Nat.le_of_ble_eq_true rfl, Nat.le_of_ble_eq_true rfl⟩) hK hZ hH rfl hl.1 rfl (Nat.le_of_ble_eq_true rfl) ⟨Nat.zero_le _, Nat.zero_le _⟩ dX0_pairUp_16 (fun z16 H locs hp hH => ?_)
    have hJ := jJ_tr hJ hp.1 (by decide) (by decide) (by decide)
    have f16_0 := hp.2
    have hA16 := hp.1.2
    refine lv_aload_n hx hb dX0_pairUp_19 rfl (lv_at hl 0 rfl) ?_
    refine b_get (ci := 0) (C := RX0) (T := TX0) (Nf := 11) (v := .ref (q 11)) hx hb hts in_X0_pairUp_X0 hown hK hH 1 (by decide) rfl rfl 9 (by decide) (hts (.fieldLink RX0 42 "StationLine$Bench" "apart" "[I") (List.mem_of_getElem? (i := 2) rfl)) rfl dX0_pairUp_20 ?_
    refine lv_iload_n hx hb dX0_pairUp_23 rfl (lv_at hl 1 rfl) ?_
    refine lv_iload_n hx hb dX0_pairUp_24 rfl (lv_at hl 2 rfl) ?_
    refine lv_iload_n hx hb dX0_pairUp_25 rfl (lv_at hl 3 rfl) ?_
    refine lv_iconst (v := 2) hx hb dX0_pairUp_26 (by decide) ?_
    refine lv_icmp_ne (tgt := 34) hx hb dX0_pairUp_27 (by decide) (fun c17 => ?_) (fun c17 => ?_)
    · skip
      refine lv_iconst (v := 0) hx hb dX0_pairUp_34 (by decide) ?_
      refine b_statv (As := [.ref (q 11), .int p0, .int p1, .int 0]) (rest := []) ⟨hx, hb, hml, hown, hts⟩ (g_X0_mark_11 l D cy q hH.2.1 z16 hJ.1 p0 hp0 p1 hp1 0 (iv_w (iv_lit (n := 0) 0 (by decide)) (by decide) (by decide))) (va_cwS 4 hts gX0_pairUp_X0_mark rfl rfl rfl (by decide +kernel) ⟨Nat.le_of_ble_eq_true rfl, Nat.le_of_ble_eq_true rfl⟩) hK hZ hH rfl hl.1 rfl (Nat.le_of_ble_eq_true rfl) ⟨Nat.zero_le _, Nat.zero_le _⟩ dX0_pairUp_35 (fun z19 H locs hp hH => ?_)
      have hJ := jJ_tr hJ hp.1 (by decide) (by decide) (by decide)
      have f19_0 := hp.2
      have hA19 := hp.1.2
      exact hret z19 H locs _ _ ⟨hJ, (by rw [((hA19.2.1 10 (by decide)))]; exact mq_eq f16_0 (show decide (¬ (0 : Int32) = 0) = decide (p2 = 1) by rw [decide_eq_false c14]; decide)), (mq_eq (show MkQ (z0.2.1 11) _ _ _ _ from (by rw [← hA16.2.1 11 (by decide)]; exact f19_0)) (show decide (¬ (0 : Int32) = 0) = decide (p2 = 2) by rw [decide_eq_false c17]; decide))⟩ hH dX0_pairUp_38
    · skip
      have k20a : iv 2 2 p2 := iv_eql (iv_Eq c17) (iv_all p2) (iv_lit (n := 2) 2 (by decide)) (by decide) (by decide)
      refine lv_iconst (v := 1) hx hb dX0_pairUp_30 (by decide) ?_
      refine lv_goto (tgt := 35) hx hb dX0_pairUp_31 (by decide) ?_
      refine b_statv (As := [.ref (q 11), .int p0, .int p1, .int 1]) (rest := []) ⟨hx, hb, hml, hown, hts⟩ (g_X0_mark_11 l D cy q hH.2.1 z16 hJ.1 p0 hp0 p1 hp1 1 (iv_w (iv_lit (n := 1) 1 (by decide)) (by decide) (by decide))) (va_cwS 4 hts gX0_pairUp_X0_mark rfl rfl rfl (by decide +kernel) ⟨Nat.le_of_ble_eq_true rfl, Nat.le_of_ble_eq_true rfl⟩) hK hZ hH rfl hl.1 rfl (Nat.le_of_ble_eq_true rfl) ⟨Nat.zero_le _, Nat.zero_le _⟩ dX0_pairUp_35 (fun z21 H locs hp hH => ?_)
      have hJ := jJ_tr hJ hp.1 (by decide) (by decide) (by decide)
      have f21_0 := hp.2
      have hA21 := hp.1.2
      exact hret z21 H locs _ _ ⟨hJ, (by rw [((hA21.2.1 10 (by decide)))]; exact mq_eq f16_0 (show decide (¬ (0 : Int32) = 0) = decide (p2 = 1) by rw [decide_eq_false c14]; decide)), (mq_eq (show MkQ (z0.2.1 11) _ _ _ _ from (by rw [← hA16.2.1 11 (by decide)]; exact f21_0)) (show decide (¬ (1 : Int32) = 0) = decide (p2 = 2) by rw [decide_eq_true c17]; decide))⟩ hH dX0_pairUp_38
  · skip
    have k22a : iv 1 1 p2 := iv_eql (iv_Eq c14) (iv_all p2) (iv_lit (n := 1) 1 (by decide)) (by decide) (by decide)
    refine lv_iconst (v := 1) hx hb dX0_pairUp_11 (by decide) ?_
    refine lv_goto (tgt := 16) hx hb dX0_pairUp_12 (by decide) ?_
    refine b_statv (As := [.ref (q 10), .int p0, .int p1, .int 1]) (rest := []) ⟨hx, hb, hml, hown, hts⟩ (g_X0_mark_10 l D cy q hH.2.1 z0 hJ.1 p0 hp0 p1 hp1 1 (iv_w (iv_lit (n := 1) 1 (by decide)) (by decide) (by decide))) (va_cwS 4 hts gX0_pairUp_X0_mark rfl rfl rfl (by decide +kernel) ⟨Nat.le_of_ble_eq_true rfl, Nat.le_of_ble_eq_true rfl⟩) hK hZ hH rfl hl.1 rfl (Nat.le_of_ble_eq_true rfl) ⟨Nat.zero_le _, Nat.zero_le _⟩ dX0_pairUp_16 (fun z23 H locs hp hH => ?_)
    have hJ := jJ_tr hJ hp.1 (by decide) (by decide) (by decide)
    have f23_0 := hp.2
    have hA23 := hp.1.2
    refine lv_aload_n hx hb dX0_pairUp_19 rfl (lv_at hl 0 rfl) ?_
    refine b_get (ci := 0) (C := RX0) (T := TX0) (Nf := 11) (v := .ref (q 11)) hx hb hts in_X0_pairUp_X0 hown hK hH 1 (by decide) rfl rfl 9 (by decide) (hts (.fieldLink RX0 42 "StationLine$Bench" "apart" "[I") (List.mem_of_getElem? (i := 2) rfl)) rfl dX0_pairUp_20 ?_
    refine lv_iload_n hx hb dX0_pairUp_23 rfl (lv_at hl 1 rfl) ?_
    refine lv_iload_n hx hb dX0_pairUp_24 rfl (lv_at hl 2 rfl) ?_
    refine lv_iload_n hx hb dX0_pairUp_25 rfl (lv_at hl 3 rfl) ?_
    refine lv_iconst (v := 2) hx hb dX0_pairUp_26 (by decide) ?_
    refine lv_icmp_ne (tgt := 34) hx hb dX0_pairUp_27 (by decide) (fun c24 => ?_) (fun c24 => ?_)
    · skip
      refine lv_iconst (v := 0) hx hb dX0_pairUp_34 (by decide) ?_
      refine b_statv (As := [.ref (q 11), .int p0, .int p1, .int 0]) (rest := []) ⟨hx, hb, hml, hown, hts⟩ (g_X0_mark_11 l D cy q hH.2.1 z23 hJ.1 p0 hp0 p1 hp1 0 (iv_w (iv_lit (n := 0) 0 (by decide)) (by decide) (by decide))) (va_cwS 4 hts gX0_pairUp_X0_mark rfl rfl rfl (by decide +kernel) ⟨Nat.le_of_ble_eq_true rfl, Nat.le_of_ble_eq_true rfl⟩) hK hZ hH rfl hl.1 rfl (Nat.le_of_ble_eq_true rfl) ⟨Nat.zero_le _, Nat.zero_le _⟩ dX0_pairUp_35 (fun z26 H locs hp hH => ?_)
      have hJ := jJ_tr hJ hp.1 (by decide) (by decide) (by decide)
      have f26_0 := hp.2
      have hA26 := hp.1.2
      exact hret z26 H locs _ _ ⟨hJ, (by rw [((hA26.2.1 10 (by decide)))]; exact mq_eq f23_0 (show decide (¬ (1 : Int32) = 0) = decide (p2 = 1) by rw [decide_eq_true c14]; decide)), (mq_eq (show MkQ (z0.2.1 11) _ _ _ _ from (by rw [← hA23.2.1 11 (by decide)]; exact f26_0)) (show decide (¬ (0 : Int32) = 0) = decide (p2 = 2) by rw [decide_eq_false c24]; decide))⟩ hH dX0_pairUp_38
    · skip
      exact absurd (iv_Eq c24) (by have := k22a.1; have := k22a.2; have := (iv_lit (n := 2) 2 (by decide)).1; have := (iv_lit (n := 2) 2 (by decide)).2; omega)
set_option maxHeartbeats 4000000 in
set_option maxRecDepth 100000 in
theorem g_X0_shareSum_1 (l : Launch) (D : va_G) (cy : Nat → ClassId) (q : Nat → Nat) (hq : bJ 66 q) (z0 : zS) (hI : IvC z0)  : bCi l yX0_shareSum wsX0_shareSum ({ frames := 0, cells := 0, slots := 0, locals := 0 }) D cy 66 (enC cy) q z0 [.ref (q 1)] (fun v z => jJ IvC 0 0 0 z0 z ∧ iv (-2147483648) 2147483647 v) := by
  refine hM_i cX0_shareSum (by decide) rfl (own := RX0) rfl hq (Nat.le_of_ble_eq_true rfl) ?_
  intro p e s m args below meth c Q ls H locs hx hb hml hown hts hK hZ hH hl hret
  have hl : lv_has ls 1 [(0, .ref (q 1))] := hl
  have hJ : jJ IvC 0 0 0 z0 z0 := jJ_rf _ _ _ hI
  refine lv_aload_n hx hb dX0_shareSum_0 rfl (lv_at hl 0 rfl) ?_
  refine b_get (ci := 0) (C := RX0) (T := TX0) (Nf := 11) (v := .ref (q 2)) hx hb hts in_X0_shareSum_X0 hown hK hH 1 (by decide) rfl rfl 3 (by decide) (hts (.fieldLink RX0 21 "StationLine$Bench" "shares" "[I") (List.mem_of_getElem? (i := 1) rfl)) rfl dX0_shareSum_1 ?_
  refine lv_iconst (v := 0) hx hb dX0_shareSum_4 (by decide) ?_
  refine b_iald (v := z0.2.1 2 0) hx hb hK hH 2 (by decide) rfl (by unfold vp_in; decide) rfl dX0_shareSum_5 ?_
  refine lv_aload_n hx hb dX0_shareSum_6 rfl (lv_at hl 0 rfl) ?_
  refine b_get (ci := 0) (C := RX0) (T := TX0) (Nf := 11) (v := .ref (q 2)) hx hb hts in_X0_shareSum_X0 hown hK hH 1 (by decide) rfl rfl 3 (by decide) (hts (.fieldLink RX0 21 "StationLine$Bench" "shares" "[I") (List.mem_of_getElem? (i := 1) rfl)) rfl dX0_shareSum_7 ?_
  refine lv_iconst (v := 1) hx hb dX0_shareSum_10 (by decide) ?_
  refine b_iald (v := z0.2.1 2 1) hx hb hK hH 2 (by decide) rfl (by unfold vp_in; decide) rfl dX0_shareSum_11 ?_
  refine lv_iadd hx hb dX0_shareSum_12 ?_
  refine lv_topi (fun w3 _ => ?_)
  refine lv_aload_n hx hb dX0_shareSum_13 rfl (lv_at hl 0 rfl) ?_
  refine b_get (ci := 0) (C := RX0) (T := TX0) (Nf := 11) (v := .ref (q 2)) hx hb hts in_X0_shareSum_X0 hown hK hH 1 (by decide) rfl rfl 3 (by decide) (hts (.fieldLink RX0 21 "StationLine$Bench" "shares" "[I") (List.mem_of_getElem? (i := 1) rfl)) rfl dX0_shareSum_14 ?_
  refine lv_iconst (v := 2) hx hb dX0_shareSum_17 (by decide) ?_
  refine b_iald (v := z0.2.1 2 2) hx hb hK hH 2 (by decide) rfl (by unfold vp_in; decide) rfl dX0_shareSum_18 ?_
  refine lv_iadd hx hb dX0_shareSum_19 ?_
  refine lv_topi (fun w4 _ => ?_)
  exact hret _ z0 H locs _ _ ⟨hJ, (iv_all w4)⟩ hH dX0_shareSum_20
set_option maxHeartbeats 4000000 in
set_option maxRecDepth 100000 in
theorem g_X0_roomOfOneBeat_1 (l : Launch) (D : va_G) (cy : Nat → ClassId) (q : Nat → Nat) (hq : bJ 66 q) (z0 : zS) (hI : IvC z0)  : bCi l yX0_roomOfOneBeat wsX0_roomOfOneBeat ({ frames := 1, cells := 0, slots := 0, locals := 20 }) D cy 66 (enC cy) q z0 [.ref (q 1)] (fun v z => jJ IvC 0 0 0 z0 z ∧ iv (-2147483648) 2147483647 v) := by
  refine hM_i cX0_roomOfOneBeat (by decide) rfl (own := RX0) rfl hq (Nat.le_of_ble_eq_true rfl) ?_
  intro p e s m args below meth c Q ls H locs hx hb hml hown hts hK hZ hH hl hret
  have hl : lv_has ls 1 [(0, .ref (q 1))] := hl
  have hJ : jJ IvC 0 0 0 z0 z0 := jJ_rf _ _ _ hI
  refine lv_aload_n hx hb dX0_roomOfOneBeat_0 rfl (lv_at hl 0 rfl) ?_
  refine b_get (ci := 0) (C := RX0) (T := TX0) (Nf := 11) (v := .int (z0.1 1)) hx hb hts in_X0_roomOfOneBeat_X0 hown hK hH 1 (by decide) rfl rfl 1 (by decide) (hts (.fieldLink RX0 15 "StationLine$Bench" "kind" "I") (List.mem_of_getElem? (i := 1) rfl)) rfl dX0_roomOfOneBeat_1 ?_
  refine lv_iconst (v := 2) hx hb dX0_roomOfOneBeat_4 (by decide) ?_
  refine lv_icmp_ne (tgt := 15) hx hb dX0_roomOfOneBeat_5 (by decide) (fun c5 => ?_) (fun c5 => ?_)
  · skip
    refine lv_iconst (v := 1) hx hb dX0_roomOfOneBeat_15 (by decide) ?_
    exact hret _ z0 H locs _ _ ⟨hJ, (iv_w (iv_lit (n := 1) 1 (by decide)) (by decide) (by decide))⟩ hH dX0_roomOfOneBeat_16
  · skip
    have k7a : iv 2 2 (z0.1 1) := iv_eql (iv_Eq c5) (iv_all (z0.1 1)) (iv_lit (n := 2) 2 (by decide)) (by decide) (by decide)
    refine lv_aload_n hx hb dX0_roomOfOneBeat_8 rfl (lv_at hl 0 rfl) ?_
    refine b_calli (As := []) (rest := []) ⟨hx, hb, hml, hown, hts⟩ 1 0 (g_X0_shareSum_1 l D cy q hH.2.1 z0 hJ.1 ) (cwV 0 hts gX0_roomOfOneBeat_X0_shareSum rfl rfl rfl (by decide +kernel) ⟨Nat.le_of_ble_eq_true rfl, Nat.le_of_ble_eq_true rfl⟩) hK hZ hH (by decide) rfl rfl rfl hl.1 rfl (Nat.le_of_ble_eq_true rfl) ⟨Nat.zero_le _, Nat.zero_le _⟩ dX0_roomOfOneBeat_9 (fun w8 z8 H locs hp hH => ?_)
    rw [Ag_0 hp.1.2] at hH
    refine lv_goto (tgt := 16) hx hb dX0_roomOfOneBeat_12 (by decide) ?_
    exact hret _ z0 H locs _ _ ⟨hJ, (iv_all w8)⟩ hH dX0_roomOfOneBeat_16
set_option maxHeartbeats 4000000 in
set_option maxRecDepth 100000 in
theorem g_X0_room_1 (l : Launch) (D : va_G) (cy : Nat → ClassId) (q : Nat → Nat) (hq : bJ 66 q) (z0 : zS) (hI : IvC z0)  : bCi l yX0_room wsX0_room ({ frames := 1, cells := 0, slots := 0, locals := 20 }) D cy 66 (enC cy) q z0 [.ref (q 1)] (fun v z => jJ IvC 0 0 0 z0 z ∧ iv (-2147483648) 2147483647 v) := by
  refine hM_i cX0_room (by decide) rfl (own := RX0) rfl hq (Nat.le_of_ble_eq_true rfl) ?_
  intro p e s m args below meth c Q ls H locs hx hb hml hown hts hK hZ hH hl hret
  have hl : lv_has ls 1 [(0, .ref (q 1))] := hl
  have hJ : jJ IvC 0 0 0 z0 z0 := jJ_rf _ _ _ hI
  refine lv_aload_n hx hb dX0_room_0 rfl (lv_at hl 0 rfl) ?_
  refine b_get (ci := 0) (C := RX0) (T := TX0) (Nf := 11) (v := .int (z0.1 1)) hx hb hts in_X0_room_X0 hown hK hH 1 (by decide) rfl rfl 1 (by decide) (hts (.fieldLink RX0 15 "StationLine$Bench" "kind" "I") (List.mem_of_getElem? (i := 1) rfl)) rfl dX0_room_1 ?_
  refine lv_iconst (v := 2) hx hb dX0_room_4 (by decide) ?_
  refine lv_icmp_ne (tgt := 20) hx hb dX0_room_5 (by decide) (fun c6 => ?_) (fun c6 => ?_)
  · skip
    refine lv_aload_n hx hb dX0_room_20 rfl (lv_at hl 0 rfl) ?_
    refine b_get (ci := 0) (C := RX0) (T := TX0) (Nf := 11) (v := .int (z0.1 2)) hx hb hts in_X0_room_X0 hown hK hH 1 (by decide) rfl rfl 2 (by decide) (hts (.fieldLink RX0 18 "StationLine$Bench" "beat" "I") (List.mem_of_getElem? (i := 2) rfl)) rfl dX0_room_21 ?_
    exact hret _ z0 H locs _ _ ⟨hJ, (iv_all (z0.1 2))⟩ hH dX0_room_24
  · skip
    have k8a : iv 2 2 (z0.1 1) := iv_eql (iv_Eq c6) (iv_all (z0.1 1)) (iv_lit (n := 2) 2 (by decide)) (by decide) (by decide)
    refine lv_aload_n hx hb dX0_room_8 rfl (lv_at hl 0 rfl) ?_
    refine b_get (ci := 0) (C := RX0) (T := TX0) (Nf := 11) (v := .int (z0.1 2)) hx hb hts in_X0_room_X0 hown hK hH 1 (by decide) rfl rfl 2 (by decide) (hts (.fieldLink RX0 18 "StationLine$Bench" "beat" "I") (List.mem_of_getElem? (i := 2) rfl)) rfl dX0_room_9 ?_
    refine lv_aload_n hx hb dX0_room_12 rfl (lv_at hl 0 rfl) ?_
    refine b_calli (As := []) (rest := [.int (z0.1 2)]) ⟨hx, hb, hml, hown, hts⟩ 1 0 (g_X0_shareSum_1 l D cy q hH.2.1 z0 hJ.1 ) (cwV 0 hts gX0_room_X0_shareSum rfl rfl rfl (by decide +kernel) ⟨Nat.le_of_ble_eq_true rfl, Nat.le_of_ble_eq_true rfl⟩) hK hZ hH (by decide) rfl rfl rfl hl.1 rfl (Nat.le_of_ble_eq_true rfl) ⟨Nat.zero_le _, Nat.zero_le _⟩ dX0_room_13 (fun w9 z9 H locs hp hH => ?_)
    rw [Ag_0 hp.1.2] at hH
    refine lv_imul hx hb dX0_room_16 ?_
    refine lv_topi (fun w10 _ => ?_)
    refine lv_goto (tgt := 24) hx hb dX0_room_17 (by decide) ?_
    exact hret _ z0 H locs _ _ ⟨hJ, (iv_all w10)⟩ hH dX0_room_24
set_option maxHeartbeats 4000000 in
set_option maxRecDepth 100000 in
theorem g_X0_weight_1 (l : Launch) (D : va_G) (cy : Nat → ClassId) (q : Nat → Nat) (hq : bJ 66 q) (z0 : zS) (hI : IvC z0) (p0 : Int32) (hp0 : iv 0 2 p0) : bCi l yX0_weight wsX0_weight ({ frames := 0, cells := 0, slots := 0, locals := 0 }) D cy 66 (enC cy) q z0 [.ref (q 1), .int p0] (fun v z => jJ IvC 0 0 0 z0 z ∧ iv (-2147483648) 2147483647 v) := by
  refine hM_i cX0_weight (by decide) rfl (own := RX0) rfl hq (Nat.le_of_ble_eq_true rfl) ?_
  intro p e s m args below meth c Q ls H locs hx hb hml hown hts hK hZ hH hl hret
  have hl : lv_has ls 2 [(0, .ref (q 1)), (1, .int p0)] := hl
  have hJ : jJ IvC 0 0 0 z0 z0 := jJ_rf _ _ _ hI
  refine lv_aload_n hx hb dX0_weight_0 rfl (lv_at hl 0 rfl) ?_
  refine b_get (ci := 0) (C := RX0) (T := TX0) (Nf := 11) (v := .int (z0.1 1)) hx hb hts in_X0_weight_X0 hown hK hH 1 (by decide) rfl rfl 1 (by decide) (hts (.fieldLink RX0 15 "StationLine$Bench" "kind" "I") (List.mem_of_getElem? (i := 1) rfl)) rfl dX0_weight_1 ?_
  refine lv_iconst (v := 2) hx hb dX0_weight_4 (by decide) ?_
  refine lv_icmp_ne (tgt := 15) hx hb dX0_weight_5 (by decide) (fun c13 => ?_) (fun c13 => ?_)
  · skip
    refine lv_aload_n hx hb dX0_weight_15 rfl (lv_at hl 0 rfl) ?_
    refine b_get (ci := 0) (C := RX0) (T := TX0) (Nf := 11) (v := .int (z0.1 1)) hx hb hts in_X0_weight_X0 hown hK hH 1 (by decide) rfl rfl 1 (by decide) (hts (.fieldLink RX0 15 "StationLine$Bench" "kind" "I") (List.mem_of_getElem? (i := 1) rfl)) rfl dX0_weight_16 ?_
    refine lv_iconst (v := 3) hx hb dX0_weight_19 (by decide) ?_
    refine lv_icmp_ne (tgt := 38) hx hb dX0_weight_20 (by decide) (fun c15 => ?_) (fun c15 => ?_)
    · skip
      refine lv_iload_n hx hb dX0_weight_38 rfl (lv_at hl 1 rfl) ?_
      refine lv_if_ne (tgt := 46) hx hb dX0_weight_39 (by decide) (fun c17 => ?_) (fun c17 => ?_)
      · skip
        have k18a : iv 1 2 p0 := iv_neLo (iv_nEq c17) hp0 (by decide) (by decide)
        refine lv_iconst (v := 0) hx hb dX0_weight_46 (by decide) ?_
        exact hret _ z0 H locs _ _ ⟨hJ, (iv_w (iv_lit (n := 0) 0 (by decide)) (by decide) (by decide))⟩ hH dX0_weight_47
      · skip
        have k19a : iv 0 0 p0 := iv_eql (iv_Eq c17) hp0 (iv_lit (n := 0) 0 (by decide)) (by decide) (by decide)
        refine lv_iconst (v := 1) hx hb dX0_weight_42 (by decide) ?_
        refine lv_goto (tgt := 47) hx hb dX0_weight_43 (by decide) ?_
        exact hret _ z0 H locs _ _ ⟨hJ, (iv_w (iv_lit (n := 1) 1 (by decide)) (by decide) (by decide))⟩ hH dX0_weight_47
    · skip
      have k20a : iv 3 3 (z0.1 1) := iv_eql (iv_Eq c15) (iv_all (z0.1 1)) (iv_lit (n := 3) 3 (by decide)) (by decide) (by decide)
      refine lv_aload_n hx hb dX0_weight_23 rfl (lv_at hl 0 rfl) ?_
      refine b_get (ci := 0) (C := RX0) (T := TX0) (Nf := 11) (v := .ref (q 2)) hx hb hts in_X0_weight_X0 hown hK hH 1 (by decide) rfl rfl 3 (by decide) (hts (.fieldLink RX0 21 "StationLine$Bench" "shares" "[I") (List.mem_of_getElem? (i := 2) rfl)) rfl dX0_weight_24 ?_
      refine lv_iload_n hx hb dX0_weight_27 rfl (lv_at hl 1 rfl) ?_
      refine b_iald (v := z0.2.1 2 (p0 : Int32).toNatClampNeg) hx hb hK hH 2 (by decide) rfl (iv_in hp0 (by decide) (by decide)) rfl dX0_weight_28 ?_
      refine lv_if_le (tgt := 36) hx hb dX0_weight_29 (by decide) (fun c21 => ?_) (fun c21 => ?_)
      · skip
        have k22a : iv (-2147483648) 0 (z0.2.1 2 (p0 : Int32).toNatClampNeg) := iv_lel (iv_Le c21) (iv_all (z0.2.1 2 (p0 : Int32).toNatClampNeg)) (iv_lit (n := 0) 0 (by decide))
        refine lv_iconst (v := 0) hx hb dX0_weight_36 (by decide) ?_
        exact hret _ z0 H locs _ _ ⟨hJ, (iv_w (iv_lit (n := 0) 0 (by decide)) (by decide) (by decide))⟩ hH dX0_weight_37
      · skip
        have k23b : iv 1 2147483647 (z0.2.1 2 (p0 : Int32).toNatClampNeg) := iv_ltr (iv_nLe c21) (iv_lit (n := 0) 0 (by decide)) (iv_all (z0.2.1 2 (p0 : Int32).toNatClampNeg)) (by decide)
        refine lv_iconst (v := 1) hx hb dX0_weight_32 (by decide) ?_
        refine lv_goto (tgt := 37) hx hb dX0_weight_33 (by decide) ?_
        exact hret _ z0 H locs _ _ ⟨hJ, (iv_w (iv_lit (n := 1) 1 (by decide)) (by decide) (by decide))⟩ hH dX0_weight_37
  · skip
    have k24a : iv 2 2 (z0.1 1) := iv_eql (iv_Eq c13) (iv_all (z0.1 1)) (iv_lit (n := 2) 2 (by decide)) (by decide) (by decide)
    refine lv_aload_n hx hb dX0_weight_8 rfl (lv_at hl 0 rfl) ?_
    refine b_get (ci := 0) (C := RX0) (T := TX0) (Nf := 11) (v := .ref (q 2)) hx hb hts in_X0_weight_X0 hown hK hH 1 (by decide) rfl rfl 3 (by decide) (hts (.fieldLink RX0 21 "StationLine$Bench" "shares" "[I") (List.mem_of_getElem? (i := 2) rfl)) rfl dX0_weight_9 ?_
    refine lv_iload_n hx hb dX0_weight_12 rfl (lv_at hl 1 rfl) ?_
    refine b_iald (v := z0.2.1 2 (p0 : Int32).toNatClampNeg) hx hb hK hH 2 (by decide) rfl (iv_in hp0 (by decide) (by decide)) rfl dX0_weight_13 ?_
    exact hret _ z0 H locs _ _ ⟨hJ, (iv_all (z0.2.1 2 (p0 : Int32).toNatClampNeg))⟩ hH dX0_weight_14
set_option maxHeartbeats 4000000 in
set_option maxRecDepth 100000 in
theorem g_X0_joined_1 (l : Launch) (D : va_G) (cy : Nat → ClassId) (q : Nat → Nat) (hq : bJ 66 q) (z0 : zS) (hI : IvC z0) (p0 : Int32) (p1 : Int32) : bCi l yX0_joined wsX0_joined ({ frames := 1, cells := 0, slots := 0, locals := 28 }) D cy 66 (enC cy) q z0 [.ref (q 1), .int p0, .int p1] (fun v z => jJ IvC 0 0 0 z0 z ∧ iv (-2147483648) 2147483647 v) := by
  refine hM_i cX0_joined (by decide) rfl (own := RX0) rfl hq (Nat.le_of_ble_eq_true rfl) ?_
  intro p e s m args below meth c Q ls H locs hx hb hml hown hts hK hZ hH hl hret
  have hl : lv_has ls 3 [(0, .ref (q 1)), (1, .int p0), (2, .int p1)] := hl
  have hJ : jJ IvC 0 0 0 z0 z0 := jJ_rf _ _ _ hI
  refine lv_aload_n hx hb dX0_joined_0 rfl (lv_at hl 0 rfl) ?_
  refine b_get (ci := 0) (C := RX0) (T := TX0) (Nf := 11) (v := .int (z0.1 1)) hx hb hts in_X0_joined_X0 hown hK hH 1 (by decide) rfl rfl 1 (by decide) (hts (.fieldLink RX0 15 "StationLine$Bench" "kind" "I") (List.mem_of_getElem? (i := 1) rfl)) rfl dX0_joined_1 ?_
  refine lv_iconst (v := 3) hx hb dX0_joined_4 (by decide) ?_
  refine lv_icmp_ne (tgt := 16) hx hb dX0_joined_5 (by decide) (fun c6 => ?_) (fun c6 => ?_)
  · skip
    refine lv_iload_n hx hb dX0_joined_16 rfl (lv_at hl 1 rfl) ?_
    refine lv_iload_n hx hb dX0_joined_17 rfl (lv_at hl 2 rfl) ?_
    refine lv_iadd hx hb dX0_joined_18 ?_
    refine lv_topi (fun w8 _ => ?_)
    exact hret _ z0 H locs _ _ ⟨hJ, (iv_all w8)⟩ hH dX0_joined_19
  · skip
    have k9a : iv 3 3 (z0.1 1) := iv_eql (iv_Eq c6) (iv_all (z0.1 1)) (iv_lit (n := 3) 3 (by decide)) (by decide) (by decide)
    refine lv_iload_n hx hb dX0_joined_8 rfl (lv_at hl 1 rfl) ?_
    refine lv_iload_n hx hb dX0_joined_9 rfl (lv_at hl 2 rfl) ?_
    refine va_mmax hx hb (by rw [hml]; exact hl.1.symm) hown (hts (.methodLink RX0 69 Lib.Math.max.name) (List.mem_of_getElem? (i := 2) rfl)) (hts (.static Lib.Math.max.name) (List.mem_of_getElem? (i := 3) rfl)) (hts (.initialized "java/lang/Math") (List.mem_of_getElem? (i := 4) rfl)) (hts (.code Lib.Math.max.name Lib.Math.max.code 2 (some .int)) (List.mem_of_getElem? (i := 5) rfl)) (Nat.le_of_ble_eq_true rfl) (Nat.le_of_ble_eq_true rfl) (Nat.zero_le _) (Nat.zero_le _) dX0_joined_10 ?_
    refine lv_topi (fun w10 _ => ?_)
    refine lv_goto (tgt := 19) hx hb dX0_joined_13 (by decide) ?_
    exact hret _ z0 H locs _ _ ⟨hJ, (iv_all w10)⟩ hH dX0_joined_19
set_option maxHeartbeats 4000000 in
set_option maxRecDepth 100000 in
theorem g_X0_timeSum_1 (l : Launch) (D : va_G) (cy : Nat → ClassId) (q : Nat → Nat) (hq : bJ 66 q) (z0 : zS) (hI : IvC z0) (p0 : Int32) (p1 : Int32) (hp1 : iv 0 2 p1) : bCi l yX0_timeSum wsX0_timeSum ({ frames := 0, cells := 0, slots := 0, locals := 0 }) D cy 66 (enC cy) q z0 [.ref (q 1), .int p0, .int p1] (fun v z => jJ IvC 0 0 0 z0 z ∧ iv (-2147483648) 2147483647 v) := by
  refine hM_i cX0_timeSum (by decide) rfl (own := RX0) rfl hq (Nat.le_of_ble_eq_true rfl) ?_
  intro p e s m args below meth c Q ls H locs hx hb hml hown hts hK hZ hH hl hret
  have hl : lv_has ls 5 [(0, .ref (q 1)), (1, .int p0), (2, .int p1)] := hl
  have hJ : jJ IvC 0 0 0 z0 z0 := jJ_rf _ _ _ hI
  have HL5 : ∀ (n : Nat) (x3_5 : Int32) (x4_5 : Int32) (H : Heap) (locs : List Loc) (ls : Array Slot), iv 0 10 x4_5 → bH D 66 (enC cy) q z0 s.heap H locs → lv_has ls 5 [(0, .ref (q 1)), (1, .int p0), (2, .int p1), (3, .int x3_5), (4, .int x4_5)] → (10 - x4_5.toInt).toNat = n → W p l e ({ frames := 0, cells := 0, slots := 0, locals := 0 }) s m args below meth c H locs 0 0 Q (F0 m 5 ls []) := by
    intro n5
    induction n5 using Nat.strongRecOn with
    | ind n5 ih5 =>
      intro x3_5 x4_5 H locs ls h4_5 hH hl hn5
      have HJ35 : ∀ (x3_35 : Int32) (H : Heap) (locs : List Loc) (ls : Array Slot), iv 0 9 x4_5 → iv 1 10 (z0.1 0) → bH D 66 (enC cy) q z0 s.heap H locs → lv_has ls 5 [(0, .ref (q 1)), (1, .int p0), (2, .int p1), (3, .int x3_35), (4, .int x4_5)] → W p l e ({ frames := 0, cells := 0, slots := 0, locals := 0 }) s m args below meth c H locs 0 0 Q (F0 m 35 ls []) := by
        intro x3_35 H locs ls h4_35 gh0_35 hH hl
        have j85 : iv 1 10 (x4_5 + 1) := iv_add h4_35 (iv_lit (n := 1) 1 (by decide)) (by decide) (by decide) (by decide) (by decide)
        have e85 : (x4_5 + 1).toInt = x4_5.toInt + 1 := (iv_addE h4_35 (iv_lit (n := 1) 1 (by decide)) (by decide) (by decide)).trans rfl
        refine lv_iinc (v := (x4_5 + 1)) (lv' := [(4, .int (x4_5 + 1)), (0, .ref (q 1)), (1, .int p0), (2, .int p1), (3, .int x3_35)]) hx hb dX0_timeSum_35 hl (k := 4) rfl rfl (by decide) rfl (fun ls hl => ?_)
        refine lv_goto (tgt := 5) hx hb dX0_timeSum_38 (by decide) ?_
        exact ih5 _ (ms_up e85 j85.2 hn5) x3_35 (x4_5 + 1)  H locs ls (iv_w j85 (by decide) (by decide))  hH (lv_sub hl [1, 2, 3, 4, 0] rfl) rfl
      refine lv_iload hx hb dX0_timeSum_5 (lv_at hl 4 rfl) ?_
      refine lv_aload_n hx hb dX0_timeSum_7 rfl (lv_at hl 0 rfl) ?_
      refine b_get (ci := 0) (C := RX0) (T := TX0) (Nf := 11) (v := .int (z0.1 0)) hx hb hts in_X0_timeSum_X0 hown hK hH 1 (by decide) rfl rfl 0 (by decide) (hts (.fieldLink RX0 9 "StationLine$Bench" "size" "I") (List.mem_of_getElem? (i := 1) rfl)) rfl dX0_timeSum_8 ?_
      have i86 := IvC_s0 hJ.1
      refine lv_icmp_ge (tgt := 41) hx hb dX0_timeSum_11 (by decide) (fun c87 => ?_) (fun c87 => ?_)
      · skip
        refine lv_iload_n hx hb dX0_timeSum_41 rfl (lv_at hl 3 rfl) ?_
        exact hret _ z0 H locs _ _ ⟨hJ, (iv_all x3_5)⟩ hH dX0_timeSum_42
      · skip
        have k89a : iv 0 9 x4_5 := iv_ltl (iv_nLe c87) h4_5 i86 (by decide)
        have k89b : iv 1 10 (z0.1 0) := iv_ltr (iv_nLe c87) h4_5 i86 (by decide)
        refine lv_iload_n hx hb dX0_timeSum_14 rfl (lv_at hl 1 rfl) ?_
        refine lv_iconst (v := 1) hx hb dX0_timeSum_15 (by decide) ?_
        refine lv_iload hx hb dX0_timeSum_16 (lv_at hl 4 rfl) ?_
        refine lv_ishl hx hb dX0_timeSum_18 ?_
        refine h_i (a := 1) (b := 512) (iv_bit k89a (by decide) (by decide)) (fun w90 i90 => ?_)
        refine lv_iand hx hb dX0_timeSum_19 ?_
        refine h_i (a := 0) (b := 512) (iv_and2 (iv_all p0) i90 (by decide) (by decide)) (fun w91 i91 => ?_)
        refine lv_if_eq (tgt := 35) hx hb dX0_timeSum_20 (by decide) (fun c92 => ?_) (fun c92 => ?_)
        · skip
          have k93a : iv 0 0 w91 := iv_eql (iv_Eq c92) i91 (iv_lit (n := 0) 0 (by decide)) (by decide) (by decide)
          exact HJ35 x3_5  H locs ls k89a k89b  hH (lv_sub hl [0, 1, 2, 3, 4] rfl)
        · skip
          have k94a : iv 1 512 w91 := iv_neLo (iv_nEq c92) i91 (by decide) (by decide)
          refine lv_iload_n hx hb dX0_timeSum_23 rfl (lv_at hl 3 rfl) ?_
          refine lv_aload_n hx hb dX0_timeSum_24 rfl (lv_at hl 0 rfl) ?_
          refine b_get (ci := 0) (C := RX0) (T := TX0) (Nf := 11) (v := .ref (q 3)) hx hb hts in_X0_timeSum_X0 hown hK hH 1 (by decide) rfl rfl 4 (by decide) (hts (.fieldLink RX0 27 "StationLine$Bench" "times" "[[I") (List.mem_of_getElem? (i := 2) rfl)) rfl dX0_timeSum_25 ?_
          refine lv_iload_n hx hb dX0_timeSum_28 rfl (lv_at hl 2 rfl) ?_
          refine h_aaldE (n := 3) hx hb hK hH 3 3 4 (by decide) rfl rfl (iv_in hp1 (by decide) (by decide)) dX0_timeSum_29 (fun k95 hk95 ek95 => ?_)
          refine lv_iload hx hb dX0_timeSum_30 (lv_at hl 4 rfl) ?_
          refine b_iald (v := z0.2.1 k95 (x4_5 : Int32).toNatClampNeg) hx hb hK hH k95 (Nat.lt_of_lt_of_le hk95.2 (by decide)) (enC_g4 cy q _ k95 hk95) (iv_in k89a (by decide) (by decide)) rfl dX0_timeSum_32 ?_
          refine lv_iadd hx hb dX0_timeSum_33 ?_
          refine lv_topi (fun w96 _ => ?_)
          refine lv_istore_n (lv' := [(3, .int w96), (0, .ref (q 1)), (1, .int p0), (2, .int p1), (4, .int x4_5)]) hx hb dX0_timeSum_34 rfl hl (by decide) rfl (fun ls hl => ?_)
          exact HJ35 w96  H locs ls k89a k89b  hH (lv_sub hl [1, 2, 3, 0, 4] rfl)
  refine lv_iconst (v := 0) hx hb dX0_timeSum_0 (by decide) ?_
  refine lv_istore_n (lv' := [(3, .int 0), (0, .ref (q 1)), (1, .int p0), (2, .int p1)]) hx hb dX0_timeSum_1 rfl hl (by decide) rfl (fun ls hl => ?_)
  refine lv_iconst (v := 0) hx hb dX0_timeSum_2 (by decide) ?_
  refine lv_istore (lv' := [(4, .int 0), (3, .int 0), (0, .ref (q 1)), (1, .int p0), (2, .int p1)]) hx hb dX0_timeSum_3 hl (by decide) rfl (fun ls hl => ?_)
  exact HL5 _ 0 0  H locs ls (iv_w (iv_lit (n := 0) 0 (by decide)) (by decide) (by decide))  hH (lv_sub hl [2, 3, 4, 1, 0] rfl) rfl
set_option maxHeartbeats 4000000 in
set_option maxRecDepth 100000 in
theorem g_X0_loadOf_1 (l : Launch) (D : va_G) (cy : Nat → ClassId) (q : Nat → Nat) (hq : bJ 66 q) (z0 : zS) (hI : IvC z0) (p0 : Int32) : bCi l yX0_loadOf wsX0_loadOf ({ frames := 2, cells := 0, slots := 0, locals := 50 }) D cy 66 (enC cy) q z0 [.ref (q 1), .int p0] (fun v z => jJ IvC 0 0 0 z0 z ∧ iv (-2147483648) 2147483647 v) := by
  refine hM_i cX0_loadOf (by decide) rfl (own := RX0) rfl hq (Nat.le_of_ble_eq_true rfl) ?_
  intro p e s m args below meth c Q ls H locs hx hb hml hown hts hK hZ hH hl hret
  have hl : lv_has ls 5 [(0, .ref (q 1)), (1, .int p0)] := hl
  have hJ : jJ IvC 0 0 0 z0 z0 := jJ_rf _ _ _ hI
  have HL4 : ∀ (n : Nat) (x2_4 : Int32) (x3_4 : Int32) (H : Heap) (locs : List Loc) (ls : Array Slot), iv 0 3 x3_4 → bH D 66 (enC cy) q z0 s.heap H locs → lv_has ls 5 [(0, .ref (q 1)), (1, .int p0), (2, .int x2_4), (3, .int x3_4)] → (3 - x3_4.toInt).toNat = n → W p l e ({ frames := 2, cells := 0, slots := 0, locals := 50 }) s m args below meth c H locs 0 0 Q (F0 m 4 ls []) := by
    intro n4
    induction n4 using Nat.strongRecOn with
    | ind n4 ih4 =>
      intro x2_4 x3_4 H locs ls h3_4 hH hl hn4
      have HJ36 : ∀ (x2_36 : Int32) (H : Heap) (locs : List Loc) (ls : Array Slot), iv 0 2 x3_4 → bH D 66 (enC cy) q z0 s.heap H locs → lv_has ls 5 [(0, .ref (q 1)), (1, .int p0), (2, .int x2_36), (3, .int x3_4)] → W p l e ({ frames := 2, cells := 0, slots := 0, locals := 50 }) s m args below meth c H locs 0 0 Q (F0 m 36 ls []) := by
        intro x2_36 H locs ls h3_36 hH hl
        have j42 : iv 1 3 (x3_4 + 1) := iv_add h3_36 (iv_lit (n := 1) 1 (by decide)) (by decide) (by decide) (by decide) (by decide)
        have e42 : (x3_4 + 1).toInt = x3_4.toInt + 1 := (iv_addE h3_36 (iv_lit (n := 1) 1 (by decide)) (by decide) (by decide)).trans rfl
        refine lv_iinc (v := (x3_4 + 1)) (lv' := [(3, .int (x3_4 + 1)), (0, .ref (q 1)), (1, .int p0), (2, .int x2_36)]) hx hb dX0_loadOf_36 hl (k := 3) rfl rfl (by decide) rfl (fun ls hl => ?_)
        refine lv_goto (tgt := 4) hx hb dX0_loadOf_39 (by decide) ?_
        exact ih4 _ (ms_up e42 j42.2 hn4) x2_36 (x3_4 + 1)  H locs ls (iv_w j42 (by decide) (by decide))  hH (lv_sub hl [1, 2, 3, 0] rfl) rfl
      refine lv_iload_n hx hb dX0_loadOf_4 rfl (lv_at hl 3 rfl) ?_
      refine lv_iconst (v := 3) hx hb dX0_loadOf_5 (by decide) ?_
      refine lv_icmp_ge (tgt := 42) hx hb dX0_loadOf_6 (by decide) (fun c43 => ?_) (fun c43 => ?_)
      · skip
        have k44b : iv 3 3 x3_4 := iv_ler (iv_Le c43) (iv_lit (n := 3) 3 (by decide)) h3_4
        refine lv_iload_n hx hb dX0_loadOf_42 rfl (lv_at hl 2 rfl) ?_
        exact hret _ z0 H locs _ _ ⟨hJ, (iv_all x2_4)⟩ hH dX0_loadOf_43
      · skip
        have k45a : iv 0 2 x3_4 := iv_ltl (iv_nLe c43) h3_4 (iv_lit (n := 3) 3 (by decide)) (by decide)
        refine lv_aload_n hx hb dX0_loadOf_9 rfl (lv_at hl 0 rfl) ?_
        refine lv_iload_n hx hb dX0_loadOf_10 rfl (lv_at hl 3 rfl) ?_
        refine b_calli (As := [.int x3_4]) (rest := []) ⟨hx, hb, hml, hown, hts⟩ 1 0 (g_X0_weight_1 l D cy q hH.2.1 z0 hJ.1 x3_4 k45a) (cwV 1 hts gX0_loadOf_X0_weight rfl rfl rfl (by decide +kernel) ⟨Nat.le_of_ble_eq_true rfl, Nat.le_of_ble_eq_true rfl⟩) hK hZ hH (by decide) rfl rfl rfl hl.1 rfl (Nat.le_of_ble_eq_true rfl) ⟨Nat.zero_le _, Nat.zero_le _⟩ dX0_loadOf_11 (fun w46 z46 H locs hp hH => ?_)
        rw [Ag_0 hp.1.2] at hH
        refine lv_istore (lv' := [(4, .int w46), (0, .ref (q 1)), (1, .int p0), (2, .int x2_4), (3, .int x3_4)]) hx hb dX0_loadOf_14 hl (by decide) rfl (fun ls hl => ?_)
        refine lv_iload hx hb dX0_loadOf_16 (lv_at hl 0 rfl) ?_
        refine lv_if_le (tgt := 36) hx hb dX0_loadOf_18 (by decide) (fun c47 => ?_) (fun c47 => ?_)
        · skip
          have k48a : iv (-2147483648) 0 w46 := iv_lel (iv_Le c47) (iv_all w46) (iv_lit (n := 0) 0 (by decide))
          exact HJ36 x2_4  H locs ls k45a  hH (lv_sub hl [1, 2, 3, 4] rfl)
        · skip
          have k49b : iv 1 2147483647 w46 := iv_ltr (iv_nLe c47) (iv_lit (n := 0) 0 (by decide)) (iv_all w46) (by decide)
          refine lv_aload_n hx hb dX0_loadOf_21 rfl (lv_at hl 1 rfl) ?_
          refine lv_iload_n hx hb dX0_loadOf_22 rfl (lv_at hl 3 rfl) ?_
          refine lv_iload hx hb dX0_loadOf_23 (lv_at hl 0 rfl) ?_
          refine lv_aload_n hx hb dX0_loadOf_25 rfl (lv_at hl 1 rfl) ?_
          refine lv_iload_n hx hb dX0_loadOf_26 rfl (lv_at hl 2 rfl) ?_
          refine lv_iload_n hx hb dX0_loadOf_27 rfl (lv_at hl 4 rfl) ?_
          refine b_calli (As := [.int p0, .int x3_4]) (rest := [.int w46, .int x2_4, .ref (q 1)]) ⟨hx, hb, hml, hown, hts⟩ 1 0 (g_X0_timeSum_1 l D cy q hH.2.1 z0 hJ.1 p0 x3_4 k45a) (cwV 2 hts gX0_loadOf_X0_timeSum rfl rfl rfl (by decide +kernel) ⟨Nat.le_of_ble_eq_true rfl, Nat.le_of_ble_eq_true rfl⟩) hK hZ hH (by decide) rfl rfl rfl hl.1 rfl (Nat.le_of_ble_eq_true rfl) ⟨Nat.zero_le _, Nat.zero_le _⟩ dX0_loadOf_28 (fun w50 z50 H locs hp hH => ?_)
          rw [Ag_0 hp.1.2] at hH
          refine lv_imul hx hb dX0_loadOf_31 ?_
          refine lv_topi (fun w51 _ => ?_)
          refine b_calli (As := [.int x2_4, .int w51]) (rest := []) ⟨hx, hb, hml, hown, hts⟩ 1 0 (g_X0_joined_1 l D cy q hH.2.1 z0 hJ.1 x2_4 w51) (cwV 2 hts gX0_loadOf_X0_joined rfl rfl rfl (by decide +kernel) ⟨Nat.le_of_ble_eq_true rfl, Nat.le_of_ble_eq_true rfl⟩) hK hZ hH (by decide) rfl rfl rfl hl.1 rfl (Nat.le_of_ble_eq_true rfl) ⟨Nat.zero_le _, Nat.zero_le _⟩ dX0_loadOf_32 (fun w52 z52 H locs hp hH => ?_)
          rw [Ag_0 hp.1.2] at hH
          refine lv_istore_n (lv' := [(2, .int w52), (4, .int w46), (0, .ref (q 1)), (1, .int p0), (3, .int x3_4)]) hx hb dX0_loadOf_35 rfl hl (by decide) rfl (fun ls hl => ?_)
          exact HJ36 w52  H locs ls k45a  hH (lv_sub hl [2, 3, 0, 4] rfl)
  refine lv_iconst (v := 0) hx hb dX0_loadOf_0 (by decide) ?_
  refine lv_istore_n (lv' := [(2, .int 0), (0, .ref (q 1)), (1, .int p0)]) hx hb dX0_loadOf_1 rfl hl (by decide) rfl (fun ls hl => ?_)
  refine lv_iconst (v := 0) hx hb dX0_loadOf_2 (by decide) ?_
  refine lv_istore_n (lv' := [(3, .int 0), (2, .int 0), (0, .ref (q 1)), (1, .int p0)]) hx hb dX0_loadOf_3 rfl hl (by decide) rfl (fun ls hl => ?_)
  exact HL4 _ 0 0  H locs ls (iv_w (iv_lit (n := 0) 0 (by decide)) (by decide) (by decide))  hH (lv_sub hl [2, 3, 1, 0] rfl) rfl
set_option maxHeartbeats 4000000 in
set_option maxRecDepth 100000 in
theorem g_X0_isOpen_1 (l : Launch) (D : va_G) (cy : Nat → ClassId) (q : Nat → Nat) (hq : bJ 66 q) (z0 : zS) (hI : IvC z0) (p0 : Int32) (hp0 : iv 0 9 p0) (p1 : Int32) : bCi l yX0_isOpen wsX0_isOpen ({ frames := 0, cells := 0, slots := 0, locals := 0 }) D cy 66 (enC cy) q z0 [.ref (q 1), .int p0, .int p1] (fun v z => jJ IvC 0 0 0 z0 z ∧ iv 0 1 v) := by
  refine hM_z cX0_isOpen (by decide) rfl (own := RX0) rfl hq (Nat.le_of_ble_eq_true rfl) ?_
  intro p e s m args below meth c Q ls H locs hx hb hml hown hts hK hZ hH hl hret
  have hl : lv_has ls 3 [(0, .ref (q 1)), (1, .int p0), (2, .int p1)] := hl
  have hJ : jJ IvC 0 0 0 z0 z0 := jJ_rf _ _ _ hI
  have HJ40 : ∀ (H : Heap) (locs : List Loc) (ls : Array Slot), bH D 66 (enC cy) q z0 s.heap H locs → lv_has ls 3 [] → W p l e ({ frames := 0, cells := 0, slots := 0, locals := 0 }) s m args below meth c H locs 0 0 Q (F0 m 40 ls []) := by
    intro H locs ls hH hl
    refine lv_iconst (v := 0) hx hb dX0_isOpen_40 (by decide) ?_
    exact hret _ z0 H locs _ _ (iv_w (iv_lit (n := 0) 0 (by decide)) (by decide) (by decide)) ⟨hJ, (iv_w (iv_lit (n := 0) 0 (by decide)) (by decide) (by decide))⟩ hH dX0_isOpen_41
  refine lv_aload_n hx hb dX0_isOpen_0 rfl (lv_at hl 0 rfl) ?_
  refine b_get (ci := 0) (C := RX0) (T := TX0) (Nf := 11) (v := .ref (q 8)) hx hb hts in_X0_isOpen_X0 hown hK hH 1 (by decide) rfl rfl 6 (by decide) (hts (.fieldLink RX0 33 "StationLine$Bench" "leading" "[I") (List.mem_of_getElem? (i := 1) rfl)) rfl dX0_isOpen_1 ?_
  refine lv_iload_n hx hb dX0_isOpen_4 rfl (lv_at hl 1 rfl) ?_
  refine b_iald (v := z0.2.1 8 (p0 : Int32).toNatClampNeg) hx hb hK hH 8 (by decide) rfl (iv_in hp0 (by decide) (by decide)) rfl dX0_isOpen_5 ?_
  refine lv_iload_n hx hb dX0_isOpen_6 rfl (lv_at hl 2 rfl) ?_
  refine lv_iconst (v := (-1)) hx hb dX0_isOpen_7 (by decide) ?_
  refine lv_ixor hx hb dX0_isOpen_8 ?_
  refine lv_topi (fun w14 _ => ?_)
  refine lv_iand hx hb dX0_isOpen_9 ?_
  refine lv_topi (fun w15 _ => ?_)
  refine lv_if_ne (tgt := 15) hx hb dX0_isOpen_10 (by decide) (fun c16 => ?_) (fun c16 => ?_)
  · skip
    refine lv_aload_n hx hb dX0_isOpen_15 rfl (lv_at hl 0 rfl) ?_
    refine b_get (ci := 0) (C := RX0) (T := TX0) (Nf := 11) (v := .int (z0.1 1)) hx hb hts in_X0_isOpen_X0 hown hK hH 1 (by decide) rfl rfl 1 (by decide) (hts (.fieldLink RX0 15 "StationLine$Bench" "kind" "I") (List.mem_of_getElem? (i := 2) rfl)) rfl dX0_isOpen_16 ?_
    refine lv_iconst (v := 1) hx hb dX0_isOpen_19 (by decide) ?_
    refine lv_icmp_ne (tgt := 40) hx hb dX0_isOpen_20 (by decide) (fun c18 => ?_) (fun c18 => ?_)
    · skip
      exact HJ40   H locs ls   hH (lv_sub hl [] rfl)
    · skip
      have k20a : iv 1 1 (z0.1 1) := iv_eql (iv_Eq c18) (iv_all (z0.1 1)) (iv_lit (n := 1) 1 (by decide)) (by decide) (by decide)
      refine lv_aload_n hx hb dX0_isOpen_23 rfl (lv_at hl 0 rfl) ?_
      refine b_get (ci := 0) (C := RX0) (T := TX0) (Nf := 11) (v := .ref (q 9)) hx hb hts in_X0_isOpen_X0 hown hK hH 1 (by decide) rfl rfl 7 (by decide) (hts (.fieldLink RX0 36 "StationLine$Bench" "following" "[I") (List.mem_of_getElem? (i := 3) rfl)) rfl dX0_isOpen_24 ?_
      refine lv_iload_n hx hb dX0_isOpen_27 rfl (lv_at hl 1 rfl) ?_
      refine b_iald (v := z0.2.1 9 (p0 : Int32).toNatClampNeg) hx hb hK hH 9 (by decide) rfl (iv_in hp0 (by decide) (by decide)) rfl dX0_isOpen_28 ?_
      refine lv_iload_n hx hb dX0_isOpen_29 rfl (lv_at hl 2 rfl) ?_
      refine lv_iconst (v := (-1)) hx hb dX0_isOpen_30 (by decide) ?_
      refine lv_ixor hx hb dX0_isOpen_31 ?_
      refine lv_topi (fun w21 _ => ?_)
      refine lv_iand hx hb dX0_isOpen_32 ?_
      refine lv_topi (fun w22 _ => ?_)
      refine lv_if_ne (tgt := 40) hx hb dX0_isOpen_33 (by decide) (fun c23 => ?_) (fun c23 => ?_)
      · skip
        exact HJ40   H locs ls   hH (lv_sub hl [] rfl)
      · skip
        have k25a : iv 0 0 w22 := iv_eql (iv_Eq c23) (iv_all w22) (iv_lit (n := 0) 0 (by decide)) (by decide) (by decide)
        refine lv_iconst (v := 1) hx hb dX0_isOpen_36 (by decide) ?_
        refine lv_goto (tgt := 41) hx hb dX0_isOpen_37 (by decide) ?_
        exact hret _ z0 H locs _ _ (iv_w (iv_lit (n := 1) 1 (by decide)) (by decide) (by decide)) ⟨hJ, (iv_w (iv_lit (n := 1) 1 (by decide)) (by decide) (by decide))⟩ hH dX0_isOpen_41
  · skip
    have k26a : iv 0 0 w15 := iv_eql (iv_Eq c16) (iv_all w15) (iv_lit (n := 0) 0 (by decide)) (by decide) (by decide)
    refine lv_iconst (v := 1) hx hb dX0_isOpen_13 (by decide) ?_
    exact hret _ z0 H locs _ _ (iv_w (iv_lit (n := 1) 1 (by decide)) (by decide) (by decide)) ⟨hJ, (iv_w (iv_lit (n := 1) 1 (by decide)) (by decide) (by decide))⟩ hH dX0_isOpen_14
set_option maxHeartbeats 4000000 in
set_option maxRecDepth 100000 in
theorem g_X0_halfRoomBound_1 (l : Launch) (D : va_G) (cy : Nat → ClassId) (q : Nat → Nat) (hq : bJ 66 q) (z0 : zS) (hI : IvC z0)  : bCi l yX0_halfRoomBound wsX0_halfRoomBound ({ frames := 3, cells := 0, slots := 0, locals := 74 }) D cy 66 (enC cy) q z0 [.ref (q 1)] (fun v z => jJ IvC 0 0 0 z0 z ∧ iv (-2147483648) 2147483647 v) := by
  refine hM_i cX0_halfRoomBound (by decide) rfl (own := RX0) rfl hq (Nat.le_of_ble_eq_true rfl) ?_
  intro p e s m args below meth c Q ls H locs hx hb hml hown hts hK hZ hH hl hret
  have hl : lv_has ls 6 [(0, .ref (q 1))] := hl
  have hJ : jJ IvC 0 0 0 z0 z0 := jJ_rf _ _ _ hI
  have HL12 : ∀ (n : Nat) (x1_12 : Int32) (x2_12 : Int32) (x3_12 : Int32) (x4_12 : Int32) (H : Heap) (locs : List Loc) (ls : Array Slot), iv 0 10 x4_12 → bH D 66 (enC cy) q z0 s.heap H locs → lv_has ls 6 [(0, .ref (q 1)), (1, .int x1_12), (2, .int x2_12), (3, .int x3_12), (4, .int x4_12)] → (10 - x4_12.toInt).toNat = n → W p l e ({ frames := 3, cells := 0, slots := 0, locals := 74 }) s m args below meth c H locs 0 0 Q (F0 m 12 ls []) := by
    intro n12
    induction n12 using Nat.strongRecOn with
    | ind n12 ih12 =>
      intro x1_12 x2_12 x3_12 x4_12 H locs ls h4_12 hH hl hn12
      have HJ54 : ∀ (x2_54 : Int32) (x3_54 : Int32) (H : Heap) (locs : List Loc) (ls : Array Slot), iv 0 9 x4_12 → iv 1 10 (z0.1 0) → bH D 66 (enC cy) q z0 s.heap H locs → lv_has ls 6 [(0, .ref (q 1)), (1, .int x1_12), (2, .int x2_54), (3, .int x3_54), (4, .int x4_12)] → W p l e ({ frames := 3, cells := 0, slots := 0, locals := 74 }) s m args below meth c H locs 0 0 Q (F0 m 54 ls []) := by
        intro x2_54 x3_54 H locs ls h4_54 gh0_54 hH hl
        have j565 : iv 1 10 (x4_12 + 1) := iv_add h4_54 (iv_lit (n := 1) 1 (by decide)) (by decide) (by decide) (by decide) (by decide)
        have e565 : (x4_12 + 1).toInt = x4_12.toInt + 1 := (iv_addE h4_54 (iv_lit (n := 1) 1 (by decide)) (by decide) (by decide)).trans rfl
        refine lv_iinc (v := (x4_12 + 1)) (lv' := [(4, .int (x4_12 + 1)), (0, .ref (q 1)), (1, .int x1_12), (2, .int x2_54), (3, .int x3_54)]) hx hb dX0_halfRoomBound_54 hl (k := 4) rfl rfl (by decide) rfl (fun ls hl => ?_)
        refine lv_goto (tgt := 12) hx hb dX0_halfRoomBound_57 (by decide) ?_
        exact ih12 _ (ms_up e565 j565.2 hn12) x1_12 x2_54 x3_54 (x4_12 + 1)  H locs ls (iv_w j565 (by decide) (by decide))  hH (lv_sub hl [1, 2, 3, 4, 0] rfl) rfl
      refine lv_iload hx hb dX0_halfRoomBound_12 (lv_at hl 4 rfl) ?_
      refine lv_aload_n hx hb dX0_halfRoomBound_14 rfl (lv_at hl 0 rfl) ?_
      refine b_get (ci := 0) (C := RX0) (T := TX0) (Nf := 11) (v := .int (z0.1 0)) hx hb hts in_X0_halfRoomBound_X0 hown hK hH 1 (by decide) rfl rfl 0 (by decide) (hts (.fieldLink RX0 9 "StationLine$Bench" "size" "I") (List.mem_of_getElem? (i := 1) rfl)) rfl dX0_halfRoomBound_15 ?_
      have i566 := IvC_s0 hJ.1
      refine lv_icmp_ge (tgt := 60) hx hb dX0_halfRoomBound_18 (by decide) (fun c567 => ?_) (fun c567 => ?_)
      · skip
        refine lv_iload_n hx hb dX0_halfRoomBound_60 rfl (lv_at hl 2 rfl) ?_
        refine lv_iload_n hx hb dX0_halfRoomBound_61 rfl (lv_at hl 3 rfl) ?_
        refine lv_iconst (v := 2) hx hb dX0_halfRoomBound_62 (by decide) ?_
        refine b_statN (As := [.int x3_12, .int 2]) (rest := [.int x2_12]) ⟨hx, hb, hml, hown, hts⟩ (g_X5_takenUp l D cy q hH.2.1 z0 hJ.1 x3_12 2) ⟨va_cnB 2 hts gX0_halfRoomBound_X5_takenUp_n91 rfl rfl rfl hZ.1 (hts (.initialized RX5) (List.mem_of_getElem? (i := 36) rfl)) (by decide +kernel) ⟨Nat.le_of_ble_eq_true rfl, Nat.le_of_ble_eq_true rfl⟩, (hts (.static yX5_takenUp) (List.mem_of_getElem? (i := 35) rfl)), trivial⟩ hK hZ hH rfl hl.1 rfl (Nat.le_of_ble_eq_true rfl) ⟨Nat.zero_le _, Nat.zero_le _⟩ dX0_halfRoomBound_63 (fun w569 z569 H locs hp hH => ?_)
        rw [Ag_0 hp.1.2] at hH
        refine lv_iadd hx hb dX0_halfRoomBound_66 ?_
        refine lv_topi (fun w570 _ => ?_)
        exact hret _ z0 H locs _ _ ⟨hJ, (iv_all w570)⟩ hH dX0_halfRoomBound_67
      · skip
        have k571a : iv 0 9 x4_12 := iv_ltl (iv_nLe c567) h4_12 i566 (by decide)
        have k571b : iv 1 10 (z0.1 0) := iv_ltr (iv_nLe c567) h4_12 i566 (by decide)
        refine lv_iconst (v := 2) hx hb dX0_halfRoomBound_21 (by decide) ?_
        refine lv_aload_n hx hb dX0_halfRoomBound_22 rfl (lv_at hl 0 rfl) ?_
        refine lv_iconst (v := 1) hx hb dX0_halfRoomBound_23 (by decide) ?_
        refine lv_iload hx hb dX0_halfRoomBound_24 (lv_at hl 4 rfl) ?_
        refine lv_ishl hx hb dX0_halfRoomBound_26 ?_
        refine h_i (a := 1) (b := 512) (iv_bit k571a (by decide) (by decide)) (fun w572 i572 => ?_)
        refine b_calli (As := [.int w572]) (rest := [.int 2]) ⟨hx, hb, hml, hown, hts⟩ 1 0 (g_X0_loadOf_1 l D cy q hH.2.1 z0 hJ.1 w572) (cwV 1 hts gX0_halfRoomBound_X0_loadOf rfl rfl rfl (by decide +kernel) ⟨Nat.le_of_ble_eq_true rfl, Nat.le_of_ble_eq_true rfl⟩) hK hZ hH (by decide) rfl rfl rfl hl.1 rfl (Nat.le_of_ble_eq_true rfl) ⟨Nat.zero_le _, Nat.zero_le _⟩ dX0_halfRoomBound_27 (fun w573 z573 H locs hp hH => ?_)
        rw [Ag_0 hp.1.2] at hH
        refine lv_imul hx hb dX0_halfRoomBound_30 ?_
        refine lv_topi (fun w574 _ => ?_)
        refine lv_istore (lv' := [(5, .int w574), (0, .ref (q 1)), (1, .int x1_12), (2, .int x2_12), (3, .int x3_12), (4, .int x4_12)]) hx hb dX0_halfRoomBound_31 hl (by decide) rfl (fun ls hl => ?_)
        refine lv_iload hx hb dX0_halfRoomBound_33 (lv_at hl 0 rfl) ?_
        refine lv_iload_n hx hb dX0_halfRoomBound_35 rfl (lv_at hl 2 rfl) ?_
        refine lv_icmp_le (tgt := 45) hx hb dX0_halfRoomBound_36 (by decide) (fun c575 => ?_) (fun c575 => ?_)
        · skip
          refine lv_iload hx hb dX0_halfRoomBound_45 (lv_at hl 0 rfl) ?_
          refine lv_iload_n hx hb dX0_halfRoomBound_47 rfl (lv_at hl 2 rfl) ?_
          refine lv_icmp_ne (tgt := 54) hx hb dX0_halfRoomBound_48 (by decide) (fun c577 => ?_) (fun c577 => ?_)
          · skip
            exact HJ54 x2_12 x3_12  H locs ls k571a k571b  hH (lv_sub hl [1, 2, 3, 4, 5] rfl)
          · skip
            refine lv_iinc (v := (x3_12 + 1)) (lv' := [(3, .int (x3_12 + 1)), (5, .int w574), (0, .ref (q 1)), (1, .int x1_12), (2, .int x2_12), (4, .int x4_12)]) hx hb dX0_halfRoomBound_51 hl (k := 4) rfl rfl (by decide) rfl (fun ls hl => ?_)
            exact HJ54 x2_12 (x3_12 + 1)  H locs ls k571a k571b  hH (lv_sub hl [2, 3, 4, 0, 5] rfl)
        · skip
          have k581a : iv (-2147483648) 2147483646 x1_12 := iv_ltl (iv_nLe c575) (iv_all x1_12) (iv_all w574) (by decide)
          have k581b : iv (-2147483647) 2147483647 w574 := iv_ltr (iv_nLe c575) (iv_all x1_12) (iv_all w574) (by decide)
          refine lv_iinc (v := (x2_12 + 1)) (lv' := [(2, .int (x2_12 + 1)), (5, .int w574), (0, .ref (q 1)), (1, .int x1_12), (3, .int x3_12), (4, .int x4_12)]) hx hb dX0_halfRoomBound_39 hl (k := 3) rfl rfl (by decide) rfl (fun ls hl => ?_)
          refine lv_goto (tgt := 54) hx hb dX0_halfRoomBound_42 (by decide) ?_
          exact HJ54 (x2_12 + 1) x3_12  H locs ls k571a k571b  hH (lv_sub hl [2, 3, 0, 4, 5] rfl)
  refine lv_aload_n hx hb dX0_halfRoomBound_0 rfl (lv_at hl 0 rfl) ?_
  refine b_calli (As := []) (rest := []) ⟨hx, hb, hml, hown, hts⟩ 1 0 (g_X0_room_1 l D cy q hH.2.1 z0 hJ.1 ) (cwV 0 hts gX0_halfRoomBound_X0_room rfl rfl rfl (by decide +kernel) ⟨Nat.le_of_ble_eq_true rfl, Nat.le_of_ble_eq_true rfl⟩) hK hZ hH (by decide) rfl rfl rfl hl.1 rfl (Nat.le_of_ble_eq_true rfl) ⟨Nat.zero_le _, Nat.zero_le _⟩ dX0_halfRoomBound_1 (fun w583 z583 H locs hp hH => ?_)
  rw [Ag_0 hp.1.2] at hH
  refine lv_istore_n (lv' := [(1, .int w583), (0, .ref (q 1))]) hx hb dX0_halfRoomBound_4 rfl hl (by decide) rfl (fun ls hl => ?_)
  refine lv_iconst (v := 0) hx hb dX0_halfRoomBound_5 (by decide) ?_
  refine lv_istore_n (lv' := [(2, .int 0), (1, .int w583), (0, .ref (q 1))]) hx hb dX0_halfRoomBound_6 rfl hl (by decide) rfl (fun ls hl => ?_)
  refine lv_iconst (v := 0) hx hb dX0_halfRoomBound_7 (by decide) ?_
  refine lv_istore_n (lv' := [(3, .int 0), (2, .int 0), (1, .int w583), (0, .ref (q 1))]) hx hb dX0_halfRoomBound_8 rfl hl (by decide) rfl (fun ls hl => ?_)
  refine lv_iconst (v := 0) hx hb dX0_halfRoomBound_9 (by decide) ?_
  refine lv_istore (lv' := [(4, .int 0), (3, .int 0), (2, .int 0), (1, .int w583), (0, .ref (q 1))]) hx hb dX0_halfRoomBound_10 hl (by decide) rfl (fun ls hl => ?_)
  exact HL12 _ w583 0 0 0  H locs ls (iv_w (iv_lit (n := 0) 0 (by decide)) (by decide) (by decide))  hH (lv_sub hl [4, 3, 2, 1, 0] rfl) rfl
set_option maxHeartbeats 4000000 in
set_option maxRecDepth 100000 in
theorem g_X0_become_15 (l : Launch) (D : va_G) (cy : Nat → ClassId) (q : Nat → Nat) (hq : bJ 66 q) (z0 : zS) (hI : IvC z0)  : bCv l yX0_become wsX0_become ({ frames := 1, cells := 0, slots := 0, locals := 40 }) D cy 66 (enC cy) q z0 [.ref (q 15), .ref (q 1)] (fun z => jJ IvC 56 133955584 0 z0 z ∧ ((z.1 3 = z0.1 0 ∧ z.1 4 = z0.1 1 ∧ z.1 5 = z0.1 2)) ∧ ((∀ i : Nat, i < 10 → z.2.1 21 i = z0.2.1 7 i) ∧ (∀ i : Nat, i < 10 → z.2.1 22 i = z0.2.1 8 i) ∧ (∀ i : Nat, i < 10 → z.2.1 23 i = z0.2.1 9 i) ∧ (∀ i : Nat, i < 10 → z.2.1 24 i = z0.2.1 10 i) ∧ (∀ i : Nat, i < 10 → z.2.1 25 i = z0.2.1 11 i) ∧ (∀ i : Nat, i < 10 → z.2.1 26 i = z0.2.1 12 i)) ∧ (SameT (fun a b => z0.2.1 (4 + a) b) (fun a b => z.2.1 (18 + a) b))) := by
  refine hM_v cX0_become (by decide) rfl (own := RX0) rfl hq (Nat.le_of_ble_eq_true rfl) ?_
  intro p e s m args below meth c Q ls H locs hx hb hml hown hts hK hZ hH hl hret
  have hl : lv_has ls 3 [(0, .ref (q 15)), (1, .ref (q 1))] := hl
  have hJ : jJ IvC 56 133955584 0 z0 z0 := jJ_rf _ _ _ hI
  have HL26 : ∀ (n : Nat) (x2_26 : Int32) (z_26 : zS) (H : Heap) (locs : List Loc) (ls : Array Slot), iv 0 3 x2_26 → ((z_26.1 3 = z0.1 0 ∧ z_26.1 4 = z0.1 1 ∧ z_26.1 5 = z0.1 2) ∧ BcT 18 4 z0 z_26 (x2_26 : Int32).toNatClampNeg) → jJ IvC 56 133955584 0 z0 z_26 → bH D 66 (enC cy) q z_26 s.heap H locs → lv_has ls 3 [(0, .ref (q 15)), (1, .ref (q 1)), (2, .int x2_26)] → (3 - x2_26.toInt).toNat = n → W p l e ({ frames := 1, cells := 0, slots := 0, locals := 40 }) s m args below meth c H locs 0 0 Q (F0 m 26 ls []) := by
    intro n26
    induction n26 using Nat.strongRecOn with
    | ind n26 ih26 =>
      intro x2_26 z_26 H locs ls h2_26 ex_26 hJ hH hl hn26
      refine lv_iload_n hx hb dX0_become_26 rfl (lv_at hl 2 rfl) ?_
      refine lv_iconst (v := 3) hx hb dX0_become_27 (by decide) ?_
      refine lv_icmp_ge (tgt := 56) hx hb dX0_become_28 (by decide) (fun c35 => ?_) (fun c35 => ?_)
      · skip
        have k36b : iv 3 3 x2_26 := iv_ler (iv_Le c35) (iv_lit (n := 3) 3 (by decide)) h2_26
        refine lv_aload_n hx hb dX0_become_56 rfl (lv_at hl 1 rfl) ?_
        refine b_get (ci := 0) (C := RX0) (T := TX0) (Nf := 11) (v := .ref (q 7)) hx hb hts in_X0_become_X0 hown hK hH 1 (by decide) rfl rfl 5 (by decide) (hts (.fieldLink RX0 30 "StationLine$Bench" "before" "[I") (List.mem_of_getElem? (i := 9) rfl)) rfl dX0_become_57 ?_
        refine lv_iconst (v := 0) hx hb dX0_become_60 (by decide) ?_
        refine lv_aload_n hx hb dX0_become_61 rfl (lv_at hl 0 rfl) ?_
        refine b_get (ci := 0) (C := RX0) (T := TX0) (Nf := 11) (v := .ref (q 21)) hx hb hts in_X0_become_X0 hown hK hH 15 (by decide) rfl rfl 5 (by decide) (hts (.fieldLink RX0 30 "StationLine$Bench" "before" "[I") (List.mem_of_getElem? (i := 9) rfl)) rfl dX0_become_62 ?_
        refine lv_iconst (v := 0) hx hb dX0_become_65 (by decide) ?_
        refine lv_bipush (v := 10) hx hb dX0_become_66 (by decide) ?_
        refine b_copyi hx hb (by rw [hml]; exact hl.1.symm) hown (hts (.methodLink RX0 51 arraycopyName) (List.mem_of_getElem? (i := 5) rfl)) (hts (.native arraycopyName) (List.mem_of_getElem? (i := 6) rfl)) (hts (.static arraycopyName) (List.mem_of_getElem? (i := 7) rfl)) (hts (.initialized "java/lang/System") (List.mem_of_getElem? (i := 8) rfl)) hK hH 7 21 (by decide) (by decide) rfl rfl (by decide) (by decide) (by decide) (by decide) (by decide) (Nat.le_of_ble_eq_true rfl) (Nat.le_of_ble_eq_true rfl) (upA z_26 21 (va_cpy (z_26.2.1 7) (z_26.2.1 21) (0 : Int32).toNatClampNeg (0 : Int32).toNatClampNeg (10 : Int32).toNatClampNeg)) rfl (enC_A _ _ _ _ _) dX0_become_68 (fun H locs hH => ?_)
        obtain ⟨z37, hz37⟩ : ∃ w : zS, w = upA z_26 21 (va_cpy (z_26.2.1 7) (z_26.2.1 21) (0 : Int32).toNatClampNeg (0 : Int32).toNatClampNeg (10 : Int32).toNatClampNeg) := ⟨_, rfl⟩
        rw [← hz37] at hH
        have hJ : jJ IvC 56 133955584 0 z0 z37 := by rw [hz37]; exact jJ_A hJ (by decide) (IvC_A hJ.1 (by decide))
        refine lv_aload_n hx hb dX0_become_71 rfl (lv_at hl 1 rfl) ?_
        refine b_get (ci := 0) (C := RX0) (T := TX0) (Nf := 11) (v := .ref (q 8)) hx hb hts in_X0_become_X0 hown hK hH 1 (by decide) rfl rfl 6 (by decide) (hts (.fieldLink RX0 33 "StationLine$Bench" "leading" "[I") (List.mem_of_getElem? (i := 10) rfl)) rfl dX0_become_72 ?_
        refine lv_iconst (v := 0) hx hb dX0_become_75 (by decide) ?_
        refine lv_aload_n hx hb dX0_become_76 rfl (lv_at hl 0 rfl) ?_
        refine b_get (ci := 0) (C := RX0) (T := TX0) (Nf := 11) (v := .ref (q 22)) hx hb hts in_X0_become_X0 hown hK hH 15 (by decide) rfl rfl 6 (by decide) (hts (.fieldLink RX0 33 "StationLine$Bench" "leading" "[I") (List.mem_of_getElem? (i := 10) rfl)) rfl dX0_become_77 ?_
        refine lv_iconst (v := 0) hx hb dX0_become_80 (by decide) ?_
        refine lv_bipush (v := 10) hx hb dX0_become_81 (by decide) ?_
        refine b_copyi hx hb (by rw [hml]; exact hl.1.symm) hown (hts (.methodLink RX0 51 arraycopyName) (List.mem_of_getElem? (i := 5) rfl)) (hts (.native arraycopyName) (List.mem_of_getElem? (i := 6) rfl)) (hts (.static arraycopyName) (List.mem_of_getElem? (i := 7) rfl)) (hts (.initialized "java/lang/System") (List.mem_of_getElem? (i := 8) rfl)) hK hH 8 22 (by decide) (by decide) rfl rfl (by decide) (by decide) (by decide) (by decide) (by decide) (Nat.le_of_ble_eq_true rfl) (Nat.le_of_ble_eq_true rfl) (upA z37 22 (va_cpy (z37.2.1 8) (z37.2.1 22) (0 : Int32).toNatClampNeg (0 : Int32).toNatClampNeg (10 : Int32).toNatClampNeg)) rfl (enC_A _ _ _ _ _) dX0_become_83 (fun H locs hH => ?_)
        obtain ⟨z38, hz38⟩ : ∃ w : zS, w = upA z37 22 (va_cpy (z37.2.1 8) (z37.2.1 22) (0 : Int32).toNatClampNeg (0 : Int32).toNatClampNeg (10 : Int32).toNatClampNeg) := ⟨_, rfl⟩
        rw [← hz38] at hH
        have hJ : jJ IvC 56 133955584 0 z0 z38 := by rw [hz38]; exact jJ_A hJ (by decide) (IvC_A hJ.1 (by decide))
        refine lv_aload_n hx hb dX0_become_86 rfl (lv_at hl 1 rfl) ?_
        refine b_get (ci := 0) (C := RX0) (T := TX0) (Nf := 11) (v := .ref (q 9)) hx hb hts in_X0_become_X0 hown hK hH 1 (by decide) rfl rfl 7 (by decide) (hts (.fieldLink RX0 36 "StationLine$Bench" "following" "[I") (List.mem_of_getElem? (i := 11) rfl)) rfl dX0_become_87 ?_
        refine lv_iconst (v := 0) hx hb dX0_become_90 (by decide) ?_
        refine lv_aload_n hx hb dX0_become_91 rfl (lv_at hl 0 rfl) ?_
        refine b_get (ci := 0) (C := RX0) (T := TX0) (Nf := 11) (v := .ref (q 23)) hx hb hts in_X0_become_X0 hown hK hH 15 (by decide) rfl rfl 7 (by decide) (hts (.fieldLink RX0 36 "StationLine$Bench" "following" "[I") (List.mem_of_getElem? (i := 11) rfl)) rfl dX0_become_92 ?_
        refine lv_iconst (v := 0) hx hb dX0_become_95 (by decide) ?_
        refine lv_bipush (v := 10) hx hb dX0_become_96 (by decide) ?_
        refine b_copyi hx hb (by rw [hml]; exact hl.1.symm) hown (hts (.methodLink RX0 51 arraycopyName) (List.mem_of_getElem? (i := 5) rfl)) (hts (.native arraycopyName) (List.mem_of_getElem? (i := 6) rfl)) (hts (.static arraycopyName) (List.mem_of_getElem? (i := 7) rfl)) (hts (.initialized "java/lang/System") (List.mem_of_getElem? (i := 8) rfl)) hK hH 9 23 (by decide) (by decide) rfl rfl (by decide) (by decide) (by decide) (by decide) (by decide) (Nat.le_of_ble_eq_true rfl) (Nat.le_of_ble_eq_true rfl) (upA z38 23 (va_cpy (z38.2.1 9) (z38.2.1 23) (0 : Int32).toNatClampNeg (0 : Int32).toNatClampNeg (10 : Int32).toNatClampNeg)) rfl (enC_A _ _ _ _ _) dX0_become_98 (fun H locs hH => ?_)
        obtain ⟨z39, hz39⟩ : ∃ w : zS, w = upA z38 23 (va_cpy (z38.2.1 9) (z38.2.1 23) (0 : Int32).toNatClampNeg (0 : Int32).toNatClampNeg (10 : Int32).toNatClampNeg) := ⟨_, rfl⟩
        rw [← hz39] at hH
        have hJ : jJ IvC 56 133955584 0 z0 z39 := by rw [hz39]; exact jJ_A hJ (by decide) (IvC_A hJ.1 (by decide))
        refine lv_aload_n hx hb dX0_become_101 rfl (lv_at hl 1 rfl) ?_
        refine b_get (ci := 0) (C := RX0) (T := TX0) (Nf := 11) (v := .ref (q 10)) hx hb hts in_X0_become_X0 hown hK hH 1 (by decide) rfl rfl 8 (by decide) (hts (.fieldLink RX0 39 "StationLine$Bench" "together" "[I") (List.mem_of_getElem? (i := 12) rfl)) rfl dX0_become_102 ?_
        refine lv_iconst (v := 0) hx hb dX0_become_105 (by decide) ?_
        refine lv_aload_n hx hb dX0_become_106 rfl (lv_at hl 0 rfl) ?_
        refine b_get (ci := 0) (C := RX0) (T := TX0) (Nf := 11) (v := .ref (q 24)) hx hb hts in_X0_become_X0 hown hK hH 15 (by decide) rfl rfl 8 (by decide) (hts (.fieldLink RX0 39 "StationLine$Bench" "together" "[I") (List.mem_of_getElem? (i := 12) rfl)) rfl dX0_become_107 ?_
        refine lv_iconst (v := 0) hx hb dX0_become_110 (by decide) ?_
        refine lv_bipush (v := 10) hx hb dX0_become_111 (by decide) ?_
        refine b_copyi hx hb (by rw [hml]; exact hl.1.symm) hown (hts (.methodLink RX0 51 arraycopyName) (List.mem_of_getElem? (i := 5) rfl)) (hts (.native arraycopyName) (List.mem_of_getElem? (i := 6) rfl)) (hts (.static arraycopyName) (List.mem_of_getElem? (i := 7) rfl)) (hts (.initialized "java/lang/System") (List.mem_of_getElem? (i := 8) rfl)) hK hH 10 24 (by decide) (by decide) rfl rfl (by decide) (by decide) (by decide) (by decide) (by decide) (Nat.le_of_ble_eq_true rfl) (Nat.le_of_ble_eq_true rfl) (upA z39 24 (va_cpy (z39.2.1 10) (z39.2.1 24) (0 : Int32).toNatClampNeg (0 : Int32).toNatClampNeg (10 : Int32).toNatClampNeg)) rfl (enC_A _ _ _ _ _) dX0_become_113 (fun H locs hH => ?_)
        obtain ⟨z40, hz40⟩ : ∃ w : zS, w = upA z39 24 (va_cpy (z39.2.1 10) (z39.2.1 24) (0 : Int32).toNatClampNeg (0 : Int32).toNatClampNeg (10 : Int32).toNatClampNeg) := ⟨_, rfl⟩
        rw [← hz40] at hH
        have hJ : jJ IvC 56 133955584 0 z0 z40 := by rw [hz40]; exact jJ_A hJ (by decide) (IvC_A hJ.1 (by decide))
        refine lv_aload_n hx hb dX0_become_116 rfl (lv_at hl 1 rfl) ?_
        refine b_get (ci := 0) (C := RX0) (T := TX0) (Nf := 11) (v := .ref (q 11)) hx hb hts in_X0_become_X0 hown hK hH 1 (by decide) rfl rfl 9 (by decide) (hts (.fieldLink RX0 42 "StationLine$Bench" "apart" "[I") (List.mem_of_getElem? (i := 13) rfl)) rfl dX0_become_117 ?_
        refine lv_iconst (v := 0) hx hb dX0_become_120 (by decide) ?_
        refine lv_aload_n hx hb dX0_become_121 rfl (lv_at hl 0 rfl) ?_
        refine b_get (ci := 0) (C := RX0) (T := TX0) (Nf := 11) (v := .ref (q 25)) hx hb hts in_X0_become_X0 hown hK hH 15 (by decide) rfl rfl 9 (by decide) (hts (.fieldLink RX0 42 "StationLine$Bench" "apart" "[I") (List.mem_of_getElem? (i := 13) rfl)) rfl dX0_become_122 ?_
        refine lv_iconst (v := 0) hx hb dX0_become_125 (by decide) ?_
        refine lv_bipush (v := 10) hx hb dX0_become_126 (by decide) ?_
        refine b_copyi hx hb (by rw [hml]; exact hl.1.symm) hown (hts (.methodLink RX0 51 arraycopyName) (List.mem_of_getElem? (i := 5) rfl)) (hts (.native arraycopyName) (List.mem_of_getElem? (i := 6) rfl)) (hts (.static arraycopyName) (List.mem_of_getElem? (i := 7) rfl)) (hts (.initialized "java/lang/System") (List.mem_of_getElem? (i := 8) rfl)) hK hH 11 25 (by decide) (by decide) rfl rfl (by decide) (by decide) (by decide) (by decide) (by decide) (Nat.le_of_ble_eq_true rfl) (Nat.le_of_ble_eq_true rfl) (upA z40 25 (va_cpy (z40.2.1 11) (z40.2.1 25) (0 : Int32).toNatClampNeg (0 : Int32).toNatClampNeg (10 : Int32).toNatClampNeg)) rfl (enC_A _ _ _ _ _) dX0_become_128 (fun H locs hH => ?_)
        obtain ⟨z41, hz41⟩ : ∃ w : zS, w = upA z40 25 (va_cpy (z40.2.1 11) (z40.2.1 25) (0 : Int32).toNatClampNeg (0 : Int32).toNatClampNeg (10 : Int32).toNatClampNeg) := ⟨_, rfl⟩
        rw [← hz41] at hH
        have hJ : jJ IvC 56 133955584 0 z0 z41 := by rw [hz41]; exact jJ_A hJ (by decide) (IvC_A hJ.1 (by decide))
        refine lv_aload_n hx hb dX0_become_131 rfl (lv_at hl 1 rfl) ?_
        refine b_get (ci := 0) (C := RX0) (T := TX0) (Nf := 11) (v := .ref (q 12)) hx hb hts in_X0_become_X0 hown hK hH 1 (by decide) rfl rfl 10 (by decide) (hts (.fieldLink RX0 45 "StationLine$Bench" "held" "[I") (List.mem_of_getElem? (i := 14) rfl)) rfl dX0_become_132 ?_
        refine lv_iconst (v := 0) hx hb dX0_become_135 (by decide) ?_
        refine lv_aload_n hx hb dX0_become_136 rfl (lv_at hl 0 rfl) ?_
        refine b_get (ci := 0) (C := RX0) (T := TX0) (Nf := 11) (v := .ref (q 26)) hx hb hts in_X0_become_X0 hown hK hH 15 (by decide) rfl rfl 10 (by decide) (hts (.fieldLink RX0 45 "StationLine$Bench" "held" "[I") (List.mem_of_getElem? (i := 14) rfl)) rfl dX0_become_137 ?_
        refine lv_iconst (v := 0) hx hb dX0_become_140 (by decide) ?_
        refine lv_bipush (v := 10) hx hb dX0_become_141 (by decide) ?_
        refine b_copyi hx hb (by rw [hml]; exact hl.1.symm) hown (hts (.methodLink RX0 51 arraycopyName) (List.mem_of_getElem? (i := 5) rfl)) (hts (.native arraycopyName) (List.mem_of_getElem? (i := 6) rfl)) (hts (.static arraycopyName) (List.mem_of_getElem? (i := 7) rfl)) (hts (.initialized "java/lang/System") (List.mem_of_getElem? (i := 8) rfl)) hK hH 12 26 (by decide) (by decide) rfl rfl (by decide) (by decide) (by decide) (by decide) (by decide) (Nat.le_of_ble_eq_true rfl) (Nat.le_of_ble_eq_true rfl) (upA z41 26 (va_cpy (z41.2.1 12) (z41.2.1 26) (0 : Int32).toNatClampNeg (0 : Int32).toNatClampNeg (10 : Int32).toNatClampNeg)) rfl (enC_A _ _ _ _ _) dX0_become_143 (fun H locs hH => ?_)
        obtain ⟨z42, hz42⟩ : ∃ w : zS, w = upA z41 26 (va_cpy (z41.2.1 12) (z41.2.1 26) (0 : Int32).toNatClampNeg (0 : Int32).toNatClampNeg (10 : Int32).toNatClampNeg) := ⟨_, rfl⟩
        rw [← hz42] at hH
        have hJ : jJ IvC 56 133955584 0 z0 z42 := by rw [hz42]; exact jJ_A hJ (by decide) (IvC_A hJ.1 (by decide))
        exact hret z42 H locs _ _ ⟨hJ, (by rw [(((show z42.1 3 = z41.1 3 by rw [hz42]; first | rfl | exact upA_n (by omega))).trans (((show z41.1 3 = z40.1 3 by rw [hz41]; first | rfl | exact upA_n (by omega))).trans (((show z40.1 3 = z39.1 3 by rw [hz40]; first | rfl | exact upA_n (by omega))).trans (((show z39.1 3 = z38.1 3 by rw [hz39]; first | rfl | exact upA_n (by omega))).trans (((show z38.1 3 = z37.1 3 by rw [hz38]; first | rfl | exact upA_n (by omega))).trans ((show z37.1 3 = z_26.1 3 by rw [hz37]; first | rfl | exact upA_n (by omega)))))))), (((show z42.1 4 = z41.1 4 by rw [hz42]; first | rfl | exact upA_n (by omega))).trans (((show z41.1 4 = z40.1 4 by rw [hz41]; first | rfl | exact upA_n (by omega))).trans (((show z40.1 4 = z39.1 4 by rw [hz40]; first | rfl | exact upA_n (by omega))).trans (((show z39.1 4 = z38.1 4 by rw [hz39]; first | rfl | exact upA_n (by omega))).trans (((show z38.1 4 = z37.1 4 by rw [hz38]; first | rfl | exact upA_n (by omega))).trans ((show z37.1 4 = z_26.1 4 by rw [hz37]; first | rfl | exact upA_n (by omega)))))))), (((show z42.1 5 = z41.1 5 by rw [hz42]; first | rfl | exact upA_n (by omega))).trans (((show z41.1 5 = z40.1 5 by rw [hz41]; first | rfl | exact upA_n (by omega))).trans (((show z40.1 5 = z39.1 5 by rw [hz40]; first | rfl | exact upA_n (by omega))).trans (((show z39.1 5 = z38.1 5 by rw [hz39]; first | rfl | exact upA_n (by omega))).trans (((show z38.1 5 = z37.1 5 by rw [hz38]; first | rfl | exact upA_n (by omega))).trans ((show z37.1 5 = z_26.1 5 by rw [hz37]; first | rfl | exact upA_n (by omega))))))))]; exact ex_26.1), ⟨fun i hi => (congrFun ((((show z42.2.1 21 = z41.2.1 21 by rw [hz42]; first | rfl | exact upA_n (by omega))).trans (((show z41.2.1 21 = z40.2.1 21 by rw [hz41]; first | rfl | exact upA_n (by omega))).trans (((show z40.2.1 21 = z39.2.1 21 by rw [hz40]; first | rfl | exact upA_n (by omega))).trans (((show z39.2.1 21 = z38.2.1 21 by rw [hz39]; first | rfl | exact upA_n (by omega))).trans ((show z38.2.1 21 = z37.2.1 21 by rw [hz38]; first | rfl | exact upA_n (by omega)))))))) i).trans ((show z37.2.1 21 i = z_26.2.1 7 i by rw [hz37, upA_e]; exact cpy10 hi).trans (congrFun (((((show z42.2.1 7 = z41.2.1 7 by rw [hz42]; first | rfl | exact upA_n (by omega))).trans (((show z41.2.1 7 = z40.2.1 7 by rw [hz41]; first | rfl | exact upA_n (by omega))).trans (((show z40.2.1 7 = z39.2.1 7 by rw [hz40]; first | rfl | exact upA_n (by omega))).trans (((show z39.2.1 7 = z38.2.1 7 by rw [hz39]; first | rfl | exact upA_n (by omega))).trans (((show z38.2.1 7 = z37.2.1 7 by rw [hz38]; first | rfl | exact upA_n (by omega))).trans ((show z37.2.1 7 = z_26.2.1 7 by rw [hz37]; first | rfl | exact upA_n (by omega))))))))).symm.trans (hJ.2.2.1 7 (by decide))) i)), fun i hi => (congrFun ((((show z42.2.1 22 = z41.2.1 22 by rw [hz42]; first | rfl | exact upA_n (by omega))).trans (((show z41.2.1 22 = z40.2.1 22 by rw [hz41]; first | rfl | exact upA_n (by omega))).trans (((show z40.2.1 22 = z39.2.1 22 by rw [hz40]; first | rfl | exact upA_n (by omega))).trans ((show z39.2.1 22 = z38.2.1 22 by rw [hz39]; first | rfl | exact upA_n (by omega))))))) i).trans ((show z38.2.1 22 i = z37.2.1 8 i by rw [hz38, upA_e]; exact cpy10 hi).trans (congrFun (((((show z42.2.1 8 = z41.2.1 8 by rw [hz42]; first | rfl | exact upA_n (by omega))).trans (((show z41.2.1 8 = z40.2.1 8 by rw [hz41]; first | rfl | exact upA_n (by omega))).trans (((show z40.2.1 8 = z39.2.1 8 by rw [hz40]; first | rfl | exact upA_n (by omega))).trans (((show z39.2.1 8 = z38.2.1 8 by rw [hz39]; first | rfl | exact upA_n (by omega))).trans ((show z38.2.1 8 = z37.2.1 8 by rw [hz38]; first | rfl | exact upA_n (by omega)))))))).symm.trans (hJ.2.2.1 8 (by decide))) i)), fun i hi => (congrFun ((((show z42.2.1 23 = z41.2.1 23 by rw [hz42]; first | rfl | exact upA_n (by omega))).trans (((show z41.2.1 23 = z40.2.1 23 by rw [hz41]; first | rfl | exact upA_n (by omega))).trans ((show z40.2.1 23 = z39.2.1 23 by rw [hz40]; first | rfl | exact upA_n (by omega)))))) i).trans ((show z39.2.1 23 i = z38.2.1 9 i by rw [hz39, upA_e]; exact cpy10 hi).trans (congrFun (((((show z42.2.1 9 = z41.2.1 9 by rw [hz42]; first | rfl | exact upA_n (by omega))).trans (((show z41.2.1 9 = z40.2.1 9 by rw [hz41]; first | rfl | exact upA_n (by omega))).trans (((show z40.2.1 9 = z39.2.1 9 by rw [hz40]; first | rfl | exact upA_n (by omega))).trans ((show z39.2.1 9 = z38.2.1 9 by rw [hz39]; first | rfl | exact upA_n (by omega))))))).symm.trans (hJ.2.2.1 9 (by decide))) i)), fun i hi => (congrFun ((((show z42.2.1 24 = z41.2.1 24 by rw [hz42]; first | rfl | exact upA_n (by omega))).trans ((show z41.2.1 24 = z40.2.1 24 by rw [hz41]; first | rfl | exact upA_n (by omega))))) i).trans ((show z40.2.1 24 i = z39.2.1 10 i by rw [hz40, upA_e]; exact cpy10 hi).trans (congrFun (((((show z42.2.1 10 = z41.2.1 10 by rw [hz42]; first | rfl | exact upA_n (by omega))).trans (((show z41.2.1 10 = z40.2.1 10 by rw [hz41]; first | rfl | exact upA_n (by omega))).trans ((show z40.2.1 10 = z39.2.1 10 by rw [hz40]; first | rfl | exact upA_n (by omega)))))).symm.trans (hJ.2.2.1 10 (by decide))) i)), fun i hi => (congrFun (((show z42.2.1 25 = z41.2.1 25 by rw [hz42]; first | rfl | exact upA_n (by omega)))) i).trans ((show z41.2.1 25 i = z40.2.1 11 i by rw [hz41, upA_e]; exact cpy10 hi).trans (congrFun (((((show z42.2.1 11 = z41.2.1 11 by rw [hz42]; first | rfl | exact upA_n (by omega))).trans ((show z41.2.1 11 = z40.2.1 11 by rw [hz41]; first | rfl | exact upA_n (by omega))))).symm.trans (hJ.2.2.1 11 (by decide))) i)), fun i hi => (congrFun (rfl) i).trans ((show z42.2.1 26 i = z41.2.1 12 i by rw [hz42, upA_e]; exact cpy10 hi).trans (congrFun ((((show z42.2.1 12 = z41.2.1 12 by rw [hz42]; first | rfl | exact upA_n (by omega)))).symm.trans (hJ.2.2.1 12 (by decide))) i))⟩, (BcT_fin ex_26.2 (by have h9 := k36b; have := h9.1; have := h9.2; have := iv_nat h9 (by decide); omega) (same_tr (same_tr (same_tr (same_tr (same_tr (fun a b ha _ => congrFun (show z37.2.1 (18 + a) = z_26.2.1 (18 + a) by rw [hz37]; first | rfl | exact upA_n (by omega)) b) (fun a b ha _ => congrFun (show z38.2.1 (18 + a) = z37.2.1 (18 + a) by rw [hz38]; first | rfl | exact upA_n (by omega)) b)) (fun a b ha _ => congrFun (show z39.2.1 (18 + a) = z38.2.1 (18 + a) by rw [hz39]; first | rfl | exact upA_n (by omega)) b)) (fun a b ha _ => congrFun (show z40.2.1 (18 + a) = z39.2.1 (18 + a) by rw [hz40]; first | rfl | exact upA_n (by omega)) b)) (fun a b ha _ => congrFun (show z41.2.1 (18 + a) = z40.2.1 (18 + a) by rw [hz41]; first | rfl | exact upA_n (by omega)) b)) (fun a b ha _ => congrFun (show z42.2.1 (18 + a) = z41.2.1 (18 + a) by rw [hz42]; first | rfl | exact upA_n (by omega)) b)))⟩ hH dX0_become_146
      · skip
        have k43a : iv 0 2 x2_26 := iv_ltl (iv_nLe c35) h2_26 (iv_lit (n := 3) 3 (by decide)) (by decide)
        refine lv_aload_n hx hb dX0_become_31 rfl (lv_at hl 1 rfl) ?_
        refine b_get (ci := 0) (C := RX0) (T := TX0) (Nf := 11) (v := .ref (q 3)) hx hb hts in_X0_become_X0 hown hK hH 1 (by decide) rfl rfl 4 (by decide) (hts (.fieldLink RX0 27 "StationLine$Bench" "times" "[[I") (List.mem_of_getElem? (i := 4) rfl)) rfl dX0_become_32 ?_
        refine lv_iload_n hx hb dX0_become_35 rfl (lv_at hl 2 rfl) ?_
        refine h_aaldE (n := 3) hx hb hK hH 3 3 4 (by decide) rfl rfl (iv_in k43a (by decide) (by decide)) dX0_become_36 (fun k44 hk44 ek44 => ?_)
        refine lv_iconst (v := 0) hx hb dX0_become_37 (by decide) ?_
        refine lv_aload_n hx hb dX0_become_38 rfl (lv_at hl 0 rfl) ?_
        refine b_get (ci := 0) (C := RX0) (T := TX0) (Nf := 11) (v := .ref (q 17)) hx hb hts in_X0_become_X0 hown hK hH 15 (by decide) rfl rfl 4 (by decide) (hts (.fieldLink RX0 27 "StationLine$Bench" "times" "[[I") (List.mem_of_getElem? (i := 4) rfl)) rfl dX0_become_39 ?_
        refine lv_iload_n hx hb dX0_become_42 rfl (lv_at hl 2 rfl) ?_
        refine h_aaldE (n := 3) hx hb hK hH 17 3 18 (by decide) rfl rfl (iv_in k43a (by decide) (by decide)) dX0_become_43 (fun k45 hk45 ek45 => ?_)
        refine lv_iconst (v := 0) hx hb dX0_become_44 (by decide) ?_
        refine lv_bipush (v := 10) hx hb dX0_become_45 (by decide) ?_
        refine b_copyi hx hb (by rw [hml]; exact hl.1.symm) hown (hts (.methodLink RX0 51 arraycopyName) (List.mem_of_getElem? (i := 5) rfl)) (hts (.native arraycopyName) (List.mem_of_getElem? (i := 6) rfl)) (hts (.static arraycopyName) (List.mem_of_getElem? (i := 7) rfl)) (hts (.initialized "java/lang/System") (List.mem_of_getElem? (i := 8) rfl)) hK hH k44 k45 (Nat.lt_of_lt_of_le hk44.2 (by decide)) (Nat.lt_of_lt_of_le hk45.2 (by decide)) (enC_g4 cy q _ k44 hk44) (enC_g18 cy q _ k45 hk45) (by decide) (by decide) (by decide) (by decide) (by decide) (Nat.le_of_ble_eq_true rfl) (Nat.le_of_ble_eq_true rfl) (upA z_26 k45 (va_cpy (z_26.2.1 k44) (z_26.2.1 k45) (0 : Int32).toNatClampNeg (0 : Int32).toNatClampNeg (10 : Int32).toNatClampNeg)) (enC_sa18 cy q _ k45 _ hk45) (enC_A _ _ _ _ _) dX0_become_47 (fun H locs hH => ?_)
        obtain ⟨z46, hz46⟩ : ∃ w : zS, w = upA z_26 k45 (va_cpy (z_26.2.1 k44) (z_26.2.1 k45) (0 : Int32).toNatClampNeg (0 : Int32).toNatClampNeg (10 : Int32).toNatClampNeg) := ⟨_, rfl⟩
        rw [← hz46] at hH
        have hJ : jJ IvC 56 133955584 0 z0 z46 := by rw [hz46]; exact jJ_A hJ (tb_grp (g0 := 18) (n := 3) (by decide) hk45) (IvC_A hJ.1 (by omega))
        have j47 : iv 1 3 (x2_26 + 1) := iv_add k43a (iv_lit (n := 1) 1 (by decide)) (by decide) (by decide) (by decide) (by decide)
        have e47 : (x2_26 + 1).toInt = x2_26.toInt + 1 := (iv_addE k43a (iv_lit (n := 1) 1 (by decide)) (by decide) (by decide)).trans rfl
        refine lv_iinc (v := (x2_26 + 1)) (lv' := [(2, .int (x2_26 + 1)), (0, .ref (q 15)), (1, .ref (q 1))]) hx hb dX0_become_50 hl (k := 2) rfl rfl (by decide) rfl (fun ls hl => ?_)
        refine lv_goto (tgt := 26) hx hb dX0_become_53 (by decide) ?_
        exact ih26 _ (ms_up e47 j47.2 hn26) (x2_26 + 1) z46 H locs ls (iv_w j47 (by decide) (by decide)) ⟨(by rw [((show z46.1 3 = z_26.1 3 by rw [hz46]; first | rfl | exact upA_n (by omega))), ((show z46.1 4 = z_26.1 4 by rw [hz46]; first | rfl | exact upA_n (by omega))), ((show z46.1 5 = z_26.1 5 by rw [hz46]; first | rfl | exact upA_n (by omega)))]; exact ex_26.1), BcT_st ex_26.2 (ag_T 4 hJ.2.2.1 (by decide) (by decide) (by decide)) (by decide) ek45 ek44 (by have := k43a.2; have := iv_nat k43a (by decide); omega) hz46 (by have := iv_nat k43a (by decide); have := iv_nat j47 (by decide); omega)⟩ hJ hH (lv_sub hl [1, 2, 0] rfl) rfl
  refine lv_aload_n hx hb dX0_become_0 rfl (lv_at hl 0 rfl) ?_
  refine lv_aload_n hx hb dX0_become_1 rfl (lv_at hl 1 rfl) ?_
  refine b_get (ci := 0) (C := RX0) (T := TX0) (Nf := 11) (v := .int (z0.1 0)) hx hb hts in_X0_become_X0 hown hK hH 1 (by decide) rfl rfl 0 (by decide) (hts (.fieldLink RX0 9 "StationLine$Bench" "size" "I") (List.mem_of_getElem? (i := 1) rfl)) rfl dX0_become_2 ?_
  have i48 := IvC_s0 hJ.1
  refine b_put (ci := 0) (C := RX0) (T := TX0) (Nf := 11) (v := .int (z0.1 0)) (ty := .int) hx hb hts in_X0_become_X0 tyX0 tyX0_ok nmX0 hown hK hH 15 (by decide) rfl rfl 0 (by decide) (hts (.fieldLink RX0 9 "StationLine$Bench" "size" "I") (List.mem_of_getElem? (i := 1) rfl)) rfl (by decide +kernel) rfl rfl (Nat.le_of_ble_eq_true rfl) (upS z0 3 (z0.1 0)) rfl (enC_S3 _ _ _ _) dX0_become_5 (fun H locs hH => ?_)
  obtain ⟨z49, hz49⟩ : ∃ w : zS, w = upS z0 3 (z0.1 0) := ⟨_, rfl⟩
  rw [← hz49] at hH
  have hJ : jJ IvC 56 133955584 0 z0 z49 := by rw [hz49]; exact jJ_S hJ (by decide) (IvC_S3 hJ.1 (iv_w i48 (by decide) (by decide)))
  have g50 : iv 0 10 (z49.1 3) := by rw [hz49]; exact i48
  refine lv_aload_n hx hb dX0_become_8 rfl (lv_at hl 0 rfl) ?_
  refine lv_aload_n hx hb dX0_become_9 rfl (lv_at hl 1 rfl) ?_
  refine b_get (ci := 0) (C := RX0) (T := TX0) (Nf := 11) (v := .int (z49.1 1)) hx hb hts in_X0_become_X0 hown hK hH 1 (by decide) rfl rfl 1 (by decide) (hts (.fieldLink RX0 15 "StationLine$Bench" "kind" "I") (List.mem_of_getElem? (i := 2) rfl)) rfl dX0_become_10 ?_
  refine b_put (ci := 0) (C := RX0) (T := TX0) (Nf := 11) (v := .int (z49.1 1)) (ty := .int) hx hb hts in_X0_become_X0 tyX0 tyX0_ok nmX0 hown hK hH 15 (by decide) rfl rfl 1 (by decide) (hts (.fieldLink RX0 15 "StationLine$Bench" "kind" "I") (List.mem_of_getElem? (i := 2) rfl)) rfl (by decide +kernel) rfl rfl (Nat.le_of_ble_eq_true rfl) (upS z49 4 (z49.1 1)) rfl (enC_S4 _ _ _ _) dX0_become_13 (fun H locs hH => ?_)
  obtain ⟨z51, hz51⟩ : ∃ w : zS, w = upS z49 4 (z49.1 1) := ⟨_, rfl⟩
  rw [← hz51] at hH
  have hJ : jJ IvC 56 133955584 0 z0 z51 := by rw [hz51]; exact jJ_S hJ (by decide) (IvC_S4 hJ.1)
  refine lv_aload_n hx hb dX0_become_16 rfl (lv_at hl 0 rfl) ?_
  refine lv_aload_n hx hb dX0_become_17 rfl (lv_at hl 1 rfl) ?_
  refine b_get (ci := 0) (C := RX0) (T := TX0) (Nf := 11) (v := .int (z51.1 2)) hx hb hts in_X0_become_X0 hown hK hH 1 (by decide) rfl rfl 2 (by decide) (hts (.fieldLink RX0 18 "StationLine$Bench" "beat" "I") (List.mem_of_getElem? (i := 3) rfl)) rfl dX0_become_18 ?_
  refine b_put (ci := 0) (C := RX0) (T := TX0) (Nf := 11) (v := .int (z51.1 2)) (ty := .int) hx hb hts in_X0_become_X0 tyX0 tyX0_ok nmX0 hown hK hH 15 (by decide) rfl rfl 2 (by decide) (hts (.fieldLink RX0 18 "StationLine$Bench" "beat" "I") (List.mem_of_getElem? (i := 3) rfl)) rfl (by decide +kernel) rfl rfl (Nat.le_of_ble_eq_true rfl) (upS z51 5 (z51.1 2)) rfl (enC_S5 _ _ _ _) dX0_become_21 (fun H locs hH => ?_)
  obtain ⟨z52, hz52⟩ : ∃ w : zS, w = upS z51 5 (z51.1 2) := ⟨_, rfl⟩
  rw [← hz52] at hH
  have hJ : jJ IvC 56 133955584 0 z0 z52 := by rw [hz52]; exact jJ_S hJ (by decide) (IvC_S5 hJ.1)
  refine lv_iconst (v := 0) hx hb dX0_become_24 (by decide) ?_
  refine lv_istore_n (lv' := [(2, .int 0), (0, .ref (q 15)), (1, .ref (q 1))]) hx hb dX0_become_25 rfl hl (by decide) rfl (fun ls hl => ?_)
  exact HL26 _ 0 z52 H locs ls (iv_w (iv_lit (n := 0) 0 (by decide)) (by decide) (by decide)) ⟨(by rw [hz52, hz51, hz49]; exact ⟨rfl, rfl, rfl⟩), BcT_0 (same_tr (same_tr (fun a b ha _ => congrFun (show z49.2.1 (18 + a) = z0.2.1 (18 + a) by rw [hz49]; first | rfl | exact upA_n (by omega)) b) (fun a b ha _ => congrFun (show z51.2.1 (18 + a) = z49.2.1 (18 + a) by rw [hz51]; first | rfl | exact upA_n (by omega)) b)) (fun a b ha _ => congrFun (show z52.2.1 (18 + a) = z51.2.1 (18 + a) by rw [hz52]; first | rfl | exact upA_n (by omega)) b))⟩ hJ hH (lv_sub hl [1, 2, 0] rfl) rfl
set_option maxHeartbeats 4000000 in
set_option maxRecDepth 100000 in
theorem g_X0_become_1 (l : Launch) (D : va_G) (cy : Nat → ClassId) (q : Nat → Nat) (hq : bJ 66 q) (z0 : zS) (hI : IvC z0)  : bCv l yX0_become wsX0_become ({ frames := 1, cells := 0, slots := 0, locals := 40 }) D cy 66 (enC cy) q z0 [.ref (q 1), .ref (q 15)] (fun z => jJ IvC 7 8176 0 z0 z ∧ ((z.1 0 = z0.1 3 ∧ z.1 1 = z0.1 4 ∧ z.1 2 = z0.1 5)) ∧ ((∀ i : Nat, i < 10 → z.2.1 7 i = z0.2.1 21 i) ∧ (∀ i : Nat, i < 10 → z.2.1 8 i = z0.2.1 22 i) ∧ (∀ i : Nat, i < 10 → z.2.1 9 i = z0.2.1 23 i) ∧ (∀ i : Nat, i < 10 → z.2.1 10 i = z0.2.1 24 i) ∧ (∀ i : Nat, i < 10 → z.2.1 11 i = z0.2.1 25 i) ∧ (∀ i : Nat, i < 10 → z.2.1 12 i = z0.2.1 26 i)) ∧ (SameT (fun a b => z0.2.1 (18 + a) b) (fun a b => z.2.1 (4 + a) b))) := by
  refine hM_v cX0_become (by decide) rfl (own := RX0) rfl hq (Nat.le_of_ble_eq_true rfl) ?_
  intro p e s m args below meth c Q ls H locs hx hb hml hown hts hK hZ hH hl hret
  have hl : lv_has ls 3 [(0, .ref (q 1)), (1, .ref (q 15))] := hl
  have hJ : jJ IvC 7 8176 0 z0 z0 := jJ_rf _ _ _ hI
  have HL26 : ∀ (n : Nat) (x2_26 : Int32) (z_26 : zS) (H : Heap) (locs : List Loc) (ls : Array Slot), iv 0 3 x2_26 → ((z_26.1 0 = z0.1 3 ∧ z_26.1 1 = z0.1 4 ∧ z_26.1 2 = z0.1 5) ∧ BcT 4 18 z0 z_26 (x2_26 : Int32).toNatClampNeg) → jJ IvC 7 8176 0 z0 z_26 → bH D 66 (enC cy) q z_26 s.heap H locs → lv_has ls 3 [(0, .ref (q 1)), (1, .ref (q 15)), (2, .int x2_26)] → (3 - x2_26.toInt).toNat = n → W p l e ({ frames := 1, cells := 0, slots := 0, locals := 40 }) s m args below meth c H locs 0 0 Q (F0 m 26 ls []) := by
    intro n26
    induction n26 using Nat.strongRecOn with
    | ind n26 ih26 =>
      intro x2_26 z_26 H locs ls h2_26 ex_26 hJ hH hl hn26
      refine lv_iload_n hx hb dX0_become_26 rfl (lv_at hl 2 rfl) ?_
      refine lv_iconst (v := 3) hx hb dX0_become_27 (by decide) ?_
      refine lv_icmp_ge (tgt := 56) hx hb dX0_become_28 (by decide) (fun c35 => ?_) (fun c35 => ?_)
      · skip
        have k36b : iv 3 3 x2_26 := iv_ler (iv_Le c35) (iv_lit (n := 3) 3 (by decide)) h2_26
        refine lv_aload_n hx hb dX0_become_56 rfl (lv_at hl 1 rfl) ?_
        refine b_get (ci := 0) (C := RX0) (T := TX0) (Nf := 11) (v := .ref (q 21)) hx hb hts in_X0_become_X0 hown hK hH 15 (by decide) rfl rfl 5 (by decide) (hts (.fieldLink RX0 30 "StationLine$Bench" "before" "[I") (List.mem_of_getElem? (i := 9) rfl)) rfl dX0_become_57 ?_
        refine lv_iconst (v := 0) hx hb dX0_become_60 (by decide) ?_
        refine lv_aload_n hx hb dX0_become_61 rfl (lv_at hl 0 rfl) ?_
        refine b_get (ci := 0) (C := RX0) (T := TX0) (Nf := 11) (v := .ref (q 7)) hx hb hts in_X0_become_X0 hown hK hH 1 (by decide) rfl rfl 5 (by decide) (hts (.fieldLink RX0 30 "StationLine$Bench" "before" "[I") (List.mem_of_getElem? (i := 9) rfl)) rfl dX0_become_62 ?_
        refine lv_iconst (v := 0) hx hb dX0_become_65 (by decide) ?_
        refine lv_bipush (v := 10) hx hb dX0_become_66 (by decide) ?_
        refine b_copyi hx hb (by rw [hml]; exact hl.1.symm) hown (hts (.methodLink RX0 51 arraycopyName) (List.mem_of_getElem? (i := 5) rfl)) (hts (.native arraycopyName) (List.mem_of_getElem? (i := 6) rfl)) (hts (.static arraycopyName) (List.mem_of_getElem? (i := 7) rfl)) (hts (.initialized "java/lang/System") (List.mem_of_getElem? (i := 8) rfl)) hK hH 21 7 (by decide) (by decide) rfl rfl (by decide) (by decide) (by decide) (by decide) (by decide) (Nat.le_of_ble_eq_true rfl) (Nat.le_of_ble_eq_true rfl) (upA z_26 7 (va_cpy (z_26.2.1 21) (z_26.2.1 7) (0 : Int32).toNatClampNeg (0 : Int32).toNatClampNeg (10 : Int32).toNatClampNeg)) rfl (enC_A _ _ _ _ _) dX0_become_68 (fun H locs hH => ?_)
        obtain ⟨z37, hz37⟩ : ∃ w : zS, w = upA z_26 7 (va_cpy (z_26.2.1 21) (z_26.2.1 7) (0 : Int32).toNatClampNeg (0 : Int32).toNatClampNeg (10 : Int32).toNatClampNeg) := ⟨_, rfl⟩
        rw [← hz37] at hH
        have hJ : jJ IvC 7 8176 0 z0 z37 := by rw [hz37]; exact jJ_A hJ (by decide) (IvC_A hJ.1 (by decide))
        refine lv_aload_n hx hb dX0_become_71 rfl (lv_at hl 1 rfl) ?_
        refine b_get (ci := 0) (C := RX0) (T := TX0) (Nf := 11) (v := .ref (q 22)) hx hb hts in_X0_become_X0 hown hK hH 15 (by decide) rfl rfl 6 (by decide) (hts (.fieldLink RX0 33 "StationLine$Bench" "leading" "[I") (List.mem_of_getElem? (i := 10) rfl)) rfl dX0_become_72 ?_
        refine lv_iconst (v := 0) hx hb dX0_become_75 (by decide) ?_
        refine lv_aload_n hx hb dX0_become_76 rfl (lv_at hl 0 rfl) ?_
        refine b_get (ci := 0) (C := RX0) (T := TX0) (Nf := 11) (v := .ref (q 8)) hx hb hts in_X0_become_X0 hown hK hH 1 (by decide) rfl rfl 6 (by decide) (hts (.fieldLink RX0 33 "StationLine$Bench" "leading" "[I") (List.mem_of_getElem? (i := 10) rfl)) rfl dX0_become_77 ?_
        refine lv_iconst (v := 0) hx hb dX0_become_80 (by decide) ?_
        refine lv_bipush (v := 10) hx hb dX0_become_81 (by decide) ?_
        refine b_copyi hx hb (by rw [hml]; exact hl.1.symm) hown (hts (.methodLink RX0 51 arraycopyName) (List.mem_of_getElem? (i := 5) rfl)) (hts (.native arraycopyName) (List.mem_of_getElem? (i := 6) rfl)) (hts (.static arraycopyName) (List.mem_of_getElem? (i := 7) rfl)) (hts (.initialized "java/lang/System") (List.mem_of_getElem? (i := 8) rfl)) hK hH 22 8 (by decide) (by decide) rfl rfl (by decide) (by decide) (by decide) (by decide) (by decide) (Nat.le_of_ble_eq_true rfl) (Nat.le_of_ble_eq_true rfl) (upA z37 8 (va_cpy (z37.2.1 22) (z37.2.1 8) (0 : Int32).toNatClampNeg (0 : Int32).toNatClampNeg (10 : Int32).toNatClampNeg)) rfl (enC_A _ _ _ _ _) dX0_become_83 (fun H locs hH => ?_)
        obtain ⟨z38, hz38⟩ : ∃ w : zS, w = upA z37 8 (va_cpy (z37.2.1 22) (z37.2.1 8) (0 : Int32).toNatClampNeg (0 : Int32).toNatClampNeg (10 : Int32).toNatClampNeg) := ⟨_, rfl⟩
        rw [← hz38] at hH
        have hJ : jJ IvC 7 8176 0 z0 z38 := by rw [hz38]; exact jJ_A hJ (by decide) (IvC_A hJ.1 (by decide))
        refine lv_aload_n hx hb dX0_become_86 rfl (lv_at hl 1 rfl) ?_
        refine b_get (ci := 0) (C := RX0) (T := TX0) (Nf := 11) (v := .ref (q 23)) hx hb hts in_X0_become_X0 hown hK hH 15 (by decide) rfl rfl 7 (by decide) (hts (.fieldLink RX0 36 "StationLine$Bench" "following" "[I") (List.mem_of_getElem? (i := 11) rfl)) rfl dX0_become_87 ?_
        refine lv_iconst (v := 0) hx hb dX0_become_90 (by decide) ?_
        refine lv_aload_n hx hb dX0_become_91 rfl (lv_at hl 0 rfl) ?_
        refine b_get (ci := 0) (C := RX0) (T := TX0) (Nf := 11) (v := .ref (q 9)) hx hb hts in_X0_become_X0 hown hK hH 1 (by decide) rfl rfl 7 (by decide) (hts (.fieldLink RX0 36 "StationLine$Bench" "following" "[I") (List.mem_of_getElem? (i := 11) rfl)) rfl dX0_become_92 ?_
        refine lv_iconst (v := 0) hx hb dX0_become_95 (by decide) ?_
        refine lv_bipush (v := 10) hx hb dX0_become_96 (by decide) ?_
        refine b_copyi hx hb (by rw [hml]; exact hl.1.symm) hown (hts (.methodLink RX0 51 arraycopyName) (List.mem_of_getElem? (i := 5) rfl)) (hts (.native arraycopyName) (List.mem_of_getElem? (i := 6) rfl)) (hts (.static arraycopyName) (List.mem_of_getElem? (i := 7) rfl)) (hts (.initialized "java/lang/System") (List.mem_of_getElem? (i := 8) rfl)) hK hH 23 9 (by decide) (by decide) rfl rfl (by decide) (by decide) (by decide) (by decide) (by decide) (Nat.le_of_ble_eq_true rfl) (Nat.le_of_ble_eq_true rfl) (upA z38 9 (va_cpy (z38.2.1 23) (z38.2.1 9) (0 : Int32).toNatClampNeg (0 : Int32).toNatClampNeg (10 : Int32).toNatClampNeg)) rfl (enC_A _ _ _ _ _) dX0_become_98 (fun H locs hH => ?_)
        obtain ⟨z39, hz39⟩ : ∃ w : zS, w = upA z38 9 (va_cpy (z38.2.1 23) (z38.2.1 9) (0 : Int32).toNatClampNeg (0 : Int32).toNatClampNeg (10 : Int32).toNatClampNeg) := ⟨_, rfl⟩
        rw [← hz39] at hH
        have hJ : jJ IvC 7 8176 0 z0 z39 := by rw [hz39]; exact jJ_A hJ (by decide) (IvC_A hJ.1 (by decide))
        refine lv_aload_n hx hb dX0_become_101 rfl (lv_at hl 1 rfl) ?_
        refine b_get (ci := 0) (C := RX0) (T := TX0) (Nf := 11) (v := .ref (q 24)) hx hb hts in_X0_become_X0 hown hK hH 15 (by decide) rfl rfl 8 (by decide) (hts (.fieldLink RX0 39 "StationLine$Bench" "together" "[I") (List.mem_of_getElem? (i := 12) rfl)) rfl dX0_become_102 ?_
        refine lv_iconst (v := 0) hx hb dX0_become_105 (by decide) ?_
        refine lv_aload_n hx hb dX0_become_106 rfl (lv_at hl 0 rfl) ?_
        refine b_get (ci := 0) (C := RX0) (T := TX0) (Nf := 11) (v := .ref (q 10)) hx hb hts in_X0_become_X0 hown hK hH 1 (by decide) rfl rfl 8 (by decide) (hts (.fieldLink RX0 39 "StationLine$Bench" "together" "[I") (List.mem_of_getElem? (i := 12) rfl)) rfl dX0_become_107 ?_
        refine lv_iconst (v := 0) hx hb dX0_become_110 (by decide) ?_
        refine lv_bipush (v := 10) hx hb dX0_become_111 (by decide) ?_
        refine b_copyi hx hb (by rw [hml]; exact hl.1.symm) hown (hts (.methodLink RX0 51 arraycopyName) (List.mem_of_getElem? (i := 5) rfl)) (hts (.native arraycopyName) (List.mem_of_getElem? (i := 6) rfl)) (hts (.static arraycopyName) (List.mem_of_getElem? (i := 7) rfl)) (hts (.initialized "java/lang/System") (List.mem_of_getElem? (i := 8) rfl)) hK hH 24 10 (by decide) (by decide) rfl rfl (by decide) (by decide) (by decide) (by decide) (by decide) (Nat.le_of_ble_eq_true rfl) (Nat.le_of_ble_eq_true rfl) (upA z39 10 (va_cpy (z39.2.1 24) (z39.2.1 10) (0 : Int32).toNatClampNeg (0 : Int32).toNatClampNeg (10 : Int32).toNatClampNeg)) rfl (enC_A _ _ _ _ _) dX0_become_113 (fun H locs hH => ?_)
        obtain ⟨z40, hz40⟩ : ∃ w : zS, w = upA z39 10 (va_cpy (z39.2.1 24) (z39.2.1 10) (0 : Int32).toNatClampNeg (0 : Int32).toNatClampNeg (10 : Int32).toNatClampNeg) := ⟨_, rfl⟩
        rw [← hz40] at hH
        have hJ : jJ IvC 7 8176 0 z0 z40 := by rw [hz40]; exact jJ_A hJ (by decide) (IvC_A hJ.1 (by decide))
        refine lv_aload_n hx hb dX0_become_116 rfl (lv_at hl 1 rfl) ?_
        refine b_get (ci := 0) (C := RX0) (T := TX0) (Nf := 11) (v := .ref (q 25)) hx hb hts in_X0_become_X0 hown hK hH 15 (by decide) rfl rfl 9 (by decide) (hts (.fieldLink RX0 42 "StationLine$Bench" "apart" "[I") (List.mem_of_getElem? (i := 13) rfl)) rfl dX0_become_117 ?_
        refine lv_iconst (v := 0) hx hb dX0_become_120 (by decide) ?_
        refine lv_aload_n hx hb dX0_become_121 rfl (lv_at hl 0 rfl) ?_
        refine b_get (ci := 0) (C := RX0) (T := TX0) (Nf := 11) (v := .ref (q 11)) hx hb hts in_X0_become_X0 hown hK hH 1 (by decide) rfl rfl 9 (by decide) (hts (.fieldLink RX0 42 "StationLine$Bench" "apart" "[I") (List.mem_of_getElem? (i := 13) rfl)) rfl dX0_become_122 ?_
        refine lv_iconst (v := 0) hx hb dX0_become_125 (by decide) ?_
        refine lv_bipush (v := 10) hx hb dX0_become_126 (by decide) ?_
        refine b_copyi hx hb (by rw [hml]; exact hl.1.symm) hown (hts (.methodLink RX0 51 arraycopyName) (List.mem_of_getElem? (i := 5) rfl)) (hts (.native arraycopyName) (List.mem_of_getElem? (i := 6) rfl)) (hts (.static arraycopyName) (List.mem_of_getElem? (i := 7) rfl)) (hts (.initialized "java/lang/System") (List.mem_of_getElem? (i := 8) rfl)) hK hH 25 11 (by decide) (by decide) rfl rfl (by decide) (by decide) (by decide) (by decide) (by decide) (Nat.le_of_ble_eq_true rfl) (Nat.le_of_ble_eq_true rfl) (upA z40 11 (va_cpy (z40.2.1 25) (z40.2.1 11) (0 : Int32).toNatClampNeg (0 : Int32).toNatClampNeg (10 : Int32).toNatClampNeg)) rfl (enC_A _ _ _ _ _) dX0_become_128 (fun H locs hH => ?_)
        obtain ⟨z41, hz41⟩ : ∃ w : zS, w = upA z40 11 (va_cpy (z40.2.1 25) (z40.2.1 11) (0 : Int32).toNatClampNeg (0 : Int32).toNatClampNeg (10 : Int32).toNatClampNeg) := ⟨_, rfl⟩
        rw [← hz41] at hH
        have hJ : jJ IvC 7 8176 0 z0 z41 := by rw [hz41]; exact jJ_A hJ (by decide) (IvC_A hJ.1 (by decide))
        refine lv_aload_n hx hb dX0_become_131 rfl (lv_at hl 1 rfl) ?_
        refine b_get (ci := 0) (C := RX0) (T := TX0) (Nf := 11) (v := .ref (q 26)) hx hb hts in_X0_become_X0 hown hK hH 15 (by decide) rfl rfl 10 (by decide) (hts (.fieldLink RX0 45 "StationLine$Bench" "held" "[I") (List.mem_of_getElem? (i := 14) rfl)) rfl dX0_become_132 ?_
        refine lv_iconst (v := 0) hx hb dX0_become_135 (by decide) ?_
        refine lv_aload_n hx hb dX0_become_136 rfl (lv_at hl 0 rfl) ?_
        refine b_get (ci := 0) (C := RX0) (T := TX0) (Nf := 11) (v := .ref (q 12)) hx hb hts in_X0_become_X0 hown hK hH 1 (by decide) rfl rfl 10 (by decide) (hts (.fieldLink RX0 45 "StationLine$Bench" "held" "[I") (List.mem_of_getElem? (i := 14) rfl)) rfl dX0_become_137 ?_
        refine lv_iconst (v := 0) hx hb dX0_become_140 (by decide) ?_
        refine lv_bipush (v := 10) hx hb dX0_become_141 (by decide) ?_
        refine b_copyi hx hb (by rw [hml]; exact hl.1.symm) hown (hts (.methodLink RX0 51 arraycopyName) (List.mem_of_getElem? (i := 5) rfl)) (hts (.native arraycopyName) (List.mem_of_getElem? (i := 6) rfl)) (hts (.static arraycopyName) (List.mem_of_getElem? (i := 7) rfl)) (hts (.initialized "java/lang/System") (List.mem_of_getElem? (i := 8) rfl)) hK hH 26 12 (by decide) (by decide) rfl rfl (by decide) (by decide) (by decide) (by decide) (by decide) (Nat.le_of_ble_eq_true rfl) (Nat.le_of_ble_eq_true rfl) (upA z41 12 (va_cpy (z41.2.1 26) (z41.2.1 12) (0 : Int32).toNatClampNeg (0 : Int32).toNatClampNeg (10 : Int32).toNatClampNeg)) rfl (enC_A _ _ _ _ _) dX0_become_143 (fun H locs hH => ?_)
        obtain ⟨z42, hz42⟩ : ∃ w : zS, w = upA z41 12 (va_cpy (z41.2.1 26) (z41.2.1 12) (0 : Int32).toNatClampNeg (0 : Int32).toNatClampNeg (10 : Int32).toNatClampNeg) := ⟨_, rfl⟩
        rw [← hz42] at hH
        have hJ : jJ IvC 7 8176 0 z0 z42 := by rw [hz42]; exact jJ_A hJ (by decide) (IvC_A hJ.1 (by decide))
        exact hret z42 H locs _ _ ⟨hJ, (by rw [(((show z42.1 0 = z41.1 0 by rw [hz42]; first | rfl | exact upA_n (by omega))).trans (((show z41.1 0 = z40.1 0 by rw [hz41]; first | rfl | exact upA_n (by omega))).trans (((show z40.1 0 = z39.1 0 by rw [hz40]; first | rfl | exact upA_n (by omega))).trans (((show z39.1 0 = z38.1 0 by rw [hz39]; first | rfl | exact upA_n (by omega))).trans (((show z38.1 0 = z37.1 0 by rw [hz38]; first | rfl | exact upA_n (by omega))).trans ((show z37.1 0 = z_26.1 0 by rw [hz37]; first | rfl | exact upA_n (by omega)))))))), (((show z42.1 1 = z41.1 1 by rw [hz42]; first | rfl | exact upA_n (by omega))).trans (((show z41.1 1 = z40.1 1 by rw [hz41]; first | rfl | exact upA_n (by omega))).trans (((show z40.1 1 = z39.1 1 by rw [hz40]; first | rfl | exact upA_n (by omega))).trans (((show z39.1 1 = z38.1 1 by rw [hz39]; first | rfl | exact upA_n (by omega))).trans (((show z38.1 1 = z37.1 1 by rw [hz38]; first | rfl | exact upA_n (by omega))).trans ((show z37.1 1 = z_26.1 1 by rw [hz37]; first | rfl | exact upA_n (by omega)))))))), (((show z42.1 2 = z41.1 2 by rw [hz42]; first | rfl | exact upA_n (by omega))).trans (((show z41.1 2 = z40.1 2 by rw [hz41]; first | rfl | exact upA_n (by omega))).trans (((show z40.1 2 = z39.1 2 by rw [hz40]; first | rfl | exact upA_n (by omega))).trans (((show z39.1 2 = z38.1 2 by rw [hz39]; first | rfl | exact upA_n (by omega))).trans (((show z38.1 2 = z37.1 2 by rw [hz38]; first | rfl | exact upA_n (by omega))).trans ((show z37.1 2 = z_26.1 2 by rw [hz37]; first | rfl | exact upA_n (by omega))))))))]; exact ex_26.1), ⟨fun i hi => (congrFun ((((show z42.2.1 7 = z41.2.1 7 by rw [hz42]; first | rfl | exact upA_n (by omega))).trans (((show z41.2.1 7 = z40.2.1 7 by rw [hz41]; first | rfl | exact upA_n (by omega))).trans (((show z40.2.1 7 = z39.2.1 7 by rw [hz40]; first | rfl | exact upA_n (by omega))).trans (((show z39.2.1 7 = z38.2.1 7 by rw [hz39]; first | rfl | exact upA_n (by omega))).trans ((show z38.2.1 7 = z37.2.1 7 by rw [hz38]; first | rfl | exact upA_n (by omega)))))))) i).trans ((show z37.2.1 7 i = z_26.2.1 21 i by rw [hz37, upA_e]; exact cpy10 hi).trans (congrFun (((((show z42.2.1 21 = z41.2.1 21 by rw [hz42]; first | rfl | exact upA_n (by omega))).trans (((show z41.2.1 21 = z40.2.1 21 by rw [hz41]; first | rfl | exact upA_n (by omega))).trans (((show z40.2.1 21 = z39.2.1 21 by rw [hz40]; first | rfl | exact upA_n (by omega))).trans (((show z39.2.1 21 = z38.2.1 21 by rw [hz39]; first | rfl | exact upA_n (by omega))).trans (((show z38.2.1 21 = z37.2.1 21 by rw [hz38]; first | rfl | exact upA_n (by omega))).trans ((show z37.2.1 21 = z_26.2.1 21 by rw [hz37]; first | rfl | exact upA_n (by omega))))))))).symm.trans (hJ.2.2.1 21 (by decide))) i)), fun i hi => (congrFun ((((show z42.2.1 8 = z41.2.1 8 by rw [hz42]; first | rfl | exact upA_n (by omega))).trans (((show z41.2.1 8 = z40.2.1 8 by rw [hz41]; first | rfl | exact upA_n (by omega))).trans (((show z40.2.1 8 = z39.2.1 8 by rw [hz40]; first | rfl | exact upA_n (by omega))).trans ((show z39.2.1 8 = z38.2.1 8 by rw [hz39]; first | rfl | exact upA_n (by omega))))))) i).trans ((show z38.2.1 8 i = z37.2.1 22 i by rw [hz38, upA_e]; exact cpy10 hi).trans (congrFun (((((show z42.2.1 22 = z41.2.1 22 by rw [hz42]; first | rfl | exact upA_n (by omega))).trans (((show z41.2.1 22 = z40.2.1 22 by rw [hz41]; first | rfl | exact upA_n (by omega))).trans (((show z40.2.1 22 = z39.2.1 22 by rw [hz40]; first | rfl | exact upA_n (by omega))).trans (((show z39.2.1 22 = z38.2.1 22 by rw [hz39]; first | rfl | exact upA_n (by omega))).trans ((show z38.2.1 22 = z37.2.1 22 by rw [hz38]; first | rfl | exact upA_n (by omega)))))))).symm.trans (hJ.2.2.1 22 (by decide))) i)), fun i hi => (congrFun ((((show z42.2.1 9 = z41.2.1 9 by rw [hz42]; first | rfl | exact upA_n (by omega))).trans (((show z41.2.1 9 = z40.2.1 9 by rw [hz41]; first | rfl | exact upA_n (by omega))).trans ((show z40.2.1 9 = z39.2.1 9 by rw [hz40]; first | rfl | exact upA_n (by omega)))))) i).trans ((show z39.2.1 9 i = z38.2.1 23 i by rw [hz39, upA_e]; exact cpy10 hi).trans (congrFun (((((show z42.2.1 23 = z41.2.1 23 by rw [hz42]; first | rfl | exact upA_n (by omega))).trans (((show z41.2.1 23 = z40.2.1 23 by rw [hz41]; first | rfl | exact upA_n (by omega))).trans (((show z40.2.1 23 = z39.2.1 23 by rw [hz40]; first | rfl | exact upA_n (by omega))).trans ((show z39.2.1 23 = z38.2.1 23 by rw [hz39]; first | rfl | exact upA_n (by omega))))))).symm.trans (hJ.2.2.1 23 (by decide))) i)), fun i hi => (congrFun ((((show z42.2.1 10 = z41.2.1 10 by rw [hz42]; first | rfl | exact upA_n (by omega))).trans ((show z41.2.1 10 = z40.2.1 10 by rw [hz41]; first | rfl | exact upA_n (by omega))))) i).trans ((show z40.2.1 10 i = z39.2.1 24 i by rw [hz40, upA_e]; exact cpy10 hi).trans (congrFun (((((show z42.2.1 24 = z41.2.1 24 by rw [hz42]; first | rfl | exact upA_n (by omega))).trans (((show z41.2.1 24 = z40.2.1 24 by rw [hz41]; first | rfl | exact upA_n (by omega))).trans ((show z40.2.1 24 = z39.2.1 24 by rw [hz40]; first | rfl | exact upA_n (by omega)))))).symm.trans (hJ.2.2.1 24 (by decide))) i)), fun i hi => (congrFun (((show z42.2.1 11 = z41.2.1 11 by rw [hz42]; first | rfl | exact upA_n (by omega)))) i).trans ((show z41.2.1 11 i = z40.2.1 25 i by rw [hz41, upA_e]; exact cpy10 hi).trans (congrFun (((((show z42.2.1 25 = z41.2.1 25 by rw [hz42]; first | rfl | exact upA_n (by omega))).trans ((show z41.2.1 25 = z40.2.1 25 by rw [hz41]; first | rfl | exact upA_n (by omega))))).symm.trans (hJ.2.2.1 25 (by decide))) i)), fun i hi => (congrFun (rfl) i).trans ((show z42.2.1 12 i = z41.2.1 26 i by rw [hz42, upA_e]; exact cpy10 hi).trans (congrFun ((((show z42.2.1 26 = z41.2.1 26 by rw [hz42]; first | rfl | exact upA_n (by omega)))).symm.trans (hJ.2.2.1 26 (by decide))) i))⟩, (BcT_fin ex_26.2 (by have h9 := k36b; have := h9.1; have := h9.2; have := iv_nat h9 (by decide); omega) (same_tr (same_tr (same_tr (same_tr (same_tr (fun a b ha _ => congrFun (show z37.2.1 (4 + a) = z_26.2.1 (4 + a) by rw [hz37]; first | rfl | exact upA_n (by omega)) b) (fun a b ha _ => congrFun (show z38.2.1 (4 + a) = z37.2.1 (4 + a) by rw [hz38]; first | rfl | exact upA_n (by omega)) b)) (fun a b ha _ => congrFun (show z39.2.1 (4 + a) = z38.2.1 (4 + a) by rw [hz39]; first | rfl | exact upA_n (by omega)) b)) (fun a b ha _ => congrFun (show z40.2.1 (4 + a) = z39.2.1 (4 + a) by rw [hz40]; first | rfl | exact upA_n (by omega)) b)) (fun a b ha _ => congrFun (show z41.2.1 (4 + a) = z40.2.1 (4 + a) by rw [hz41]; first | rfl | exact upA_n (by omega)) b)) (fun a b ha _ => congrFun (show z42.2.1 (4 + a) = z41.2.1 (4 + a) by rw [hz42]; first | rfl | exact upA_n (by omega)) b)))⟩ hH dX0_become_146
      · skip
        have k43a : iv 0 2 x2_26 := iv_ltl (iv_nLe c35) h2_26 (iv_lit (n := 3) 3 (by decide)) (by decide)
        refine lv_aload_n hx hb dX0_become_31 rfl (lv_at hl 1 rfl) ?_
        refine b_get (ci := 0) (C := RX0) (T := TX0) (Nf := 11) (v := .ref (q 17)) hx hb hts in_X0_become_X0 hown hK hH 15 (by decide) rfl rfl 4 (by decide) (hts (.fieldLink RX0 27 "StationLine$Bench" "times" "[[I") (List.mem_of_getElem? (i := 4) rfl)) rfl dX0_become_32 ?_
        refine lv_iload_n hx hb dX0_become_35 rfl (lv_at hl 2 rfl) ?_
        refine h_aaldE (n := 3) hx hb hK hH 17 3 18 (by decide) rfl rfl (iv_in k43a (by decide) (by decide)) dX0_become_36 (fun k44 hk44 ek44 => ?_)
        refine lv_iconst (v := 0) hx hb dX0_become_37 (by decide) ?_
        refine lv_aload_n hx hb dX0_become_38 rfl (lv_at hl 0 rfl) ?_
        refine b_get (ci := 0) (C := RX0) (T := TX0) (Nf := 11) (v := .ref (q 3)) hx hb hts in_X0_become_X0 hown hK hH 1 (by decide) rfl rfl 4 (by decide) (hts (.fieldLink RX0 27 "StationLine$Bench" "times" "[[I") (List.mem_of_getElem? (i := 4) rfl)) rfl dX0_become_39 ?_
        refine lv_iload_n hx hb dX0_become_42 rfl (lv_at hl 2 rfl) ?_
        refine h_aaldE (n := 3) hx hb hK hH 3 3 4 (by decide) rfl rfl (iv_in k43a (by decide) (by decide)) dX0_become_43 (fun k45 hk45 ek45 => ?_)
        refine lv_iconst (v := 0) hx hb dX0_become_44 (by decide) ?_
        refine lv_bipush (v := 10) hx hb dX0_become_45 (by decide) ?_
        refine b_copyi hx hb (by rw [hml]; exact hl.1.symm) hown (hts (.methodLink RX0 51 arraycopyName) (List.mem_of_getElem? (i := 5) rfl)) (hts (.native arraycopyName) (List.mem_of_getElem? (i := 6) rfl)) (hts (.static arraycopyName) (List.mem_of_getElem? (i := 7) rfl)) (hts (.initialized "java/lang/System") (List.mem_of_getElem? (i := 8) rfl)) hK hH k44 k45 (Nat.lt_of_lt_of_le hk44.2 (by decide)) (Nat.lt_of_lt_of_le hk45.2 (by decide)) (enC_g18 cy q _ k44 hk44) (enC_g4 cy q _ k45 hk45) (by decide) (by decide) (by decide) (by decide) (by decide) (Nat.le_of_ble_eq_true rfl) (Nat.le_of_ble_eq_true rfl) (upA z_26 k45 (va_cpy (z_26.2.1 k44) (z_26.2.1 k45) (0 : Int32).toNatClampNeg (0 : Int32).toNatClampNeg (10 : Int32).toNatClampNeg)) (enC_sa4 cy q _ k45 _ hk45) (enC_A _ _ _ _ _) dX0_become_47 (fun H locs hH => ?_)
        obtain ⟨z46, hz46⟩ : ∃ w : zS, w = upA z_26 k45 (va_cpy (z_26.2.1 k44) (z_26.2.1 k45) (0 : Int32).toNatClampNeg (0 : Int32).toNatClampNeg (10 : Int32).toNatClampNeg) := ⟨_, rfl⟩
        rw [← hz46] at hH
        have hJ : jJ IvC 7 8176 0 z0 z46 := by rw [hz46]; exact jJ_A hJ (tb_grp (g0 := 4) (n := 3) (by decide) hk45) (IvC_A hJ.1 (by omega))
        have j47 : iv 1 3 (x2_26 + 1) := iv_add k43a (iv_lit (n := 1) 1 (by decide)) (by decide) (by decide) (by decide) (by decide)
        have e47 : (x2_26 + 1).toInt = x2_26.toInt + 1 := (iv_addE k43a (iv_lit (n := 1) 1 (by decide)) (by decide) (by decide)).trans rfl
        refine lv_iinc (v := (x2_26 + 1)) (lv' := [(2, .int (x2_26 + 1)), (0, .ref (q 1)), (1, .ref (q 15))]) hx hb dX0_become_50 hl (k := 2) rfl rfl (by decide) rfl (fun ls hl => ?_)
        refine lv_goto (tgt := 26) hx hb dX0_become_53 (by decide) ?_
        exact ih26 _ (ms_up e47 j47.2 hn26) (x2_26 + 1) z46 H locs ls (iv_w j47 (by decide) (by decide)) ⟨(by rw [((show z46.1 0 = z_26.1 0 by rw [hz46]; first | rfl | exact upA_n (by omega))), ((show z46.1 1 = z_26.1 1 by rw [hz46]; first | rfl | exact upA_n (by omega))), ((show z46.1 2 = z_26.1 2 by rw [hz46]; first | rfl | exact upA_n (by omega)))]; exact ex_26.1), BcT_st ex_26.2 (ag_T 18 hJ.2.2.1 (by decide) (by decide) (by decide)) (by decide) ek45 ek44 (by have := k43a.2; have := iv_nat k43a (by decide); omega) hz46 (by have := iv_nat k43a (by decide); have := iv_nat j47 (by decide); omega)⟩ hJ hH (lv_sub hl [1, 2, 0] rfl) rfl
  refine lv_aload_n hx hb dX0_become_0 rfl (lv_at hl 0 rfl) ?_
  refine lv_aload_n hx hb dX0_become_1 rfl (lv_at hl 1 rfl) ?_
  refine b_get (ci := 0) (C := RX0) (T := TX0) (Nf := 11) (v := .int (z0.1 3)) hx hb hts in_X0_become_X0 hown hK hH 15 (by decide) rfl rfl 0 (by decide) (hts (.fieldLink RX0 9 "StationLine$Bench" "size" "I") (List.mem_of_getElem? (i := 1) rfl)) rfl dX0_become_2 ?_
  have i48 := IvC_s3 hJ.1
  refine b_put (ci := 0) (C := RX0) (T := TX0) (Nf := 11) (v := .int (z0.1 3)) (ty := .int) hx hb hts in_X0_become_X0 tyX0 tyX0_ok nmX0 hown hK hH 1 (by decide) rfl rfl 0 (by decide) (hts (.fieldLink RX0 9 "StationLine$Bench" "size" "I") (List.mem_of_getElem? (i := 1) rfl)) rfl (by decide +kernel) rfl rfl (Nat.le_of_ble_eq_true rfl) (upS z0 0 (z0.1 3)) rfl (enC_S0 _ _ _ _) dX0_become_5 (fun H locs hH => ?_)
  obtain ⟨z49, hz49⟩ : ∃ w : zS, w = upS z0 0 (z0.1 3) := ⟨_, rfl⟩
  rw [← hz49] at hH
  have hJ : jJ IvC 7 8176 0 z0 z49 := by rw [hz49]; exact jJ_S hJ (by decide) (IvC_S0 hJ.1 (iv_w i48 (by decide) (by decide)))
  have g50 : iv 0 10 (z49.1 0) := by rw [hz49]; exact i48
  refine lv_aload_n hx hb dX0_become_8 rfl (lv_at hl 0 rfl) ?_
  refine lv_aload_n hx hb dX0_become_9 rfl (lv_at hl 1 rfl) ?_
  refine b_get (ci := 0) (C := RX0) (T := TX0) (Nf := 11) (v := .int (z49.1 4)) hx hb hts in_X0_become_X0 hown hK hH 15 (by decide) rfl rfl 1 (by decide) (hts (.fieldLink RX0 15 "StationLine$Bench" "kind" "I") (List.mem_of_getElem? (i := 2) rfl)) rfl dX0_become_10 ?_
  refine b_put (ci := 0) (C := RX0) (T := TX0) (Nf := 11) (v := .int (z49.1 4)) (ty := .int) hx hb hts in_X0_become_X0 tyX0 tyX0_ok nmX0 hown hK hH 1 (by decide) rfl rfl 1 (by decide) (hts (.fieldLink RX0 15 "StationLine$Bench" "kind" "I") (List.mem_of_getElem? (i := 2) rfl)) rfl (by decide +kernel) rfl rfl (Nat.le_of_ble_eq_true rfl) (upS z49 1 (z49.1 4)) rfl (enC_S1 _ _ _ _) dX0_become_13 (fun H locs hH => ?_)
  obtain ⟨z51, hz51⟩ : ∃ w : zS, w = upS z49 1 (z49.1 4) := ⟨_, rfl⟩
  rw [← hz51] at hH
  have hJ : jJ IvC 7 8176 0 z0 z51 := by rw [hz51]; exact jJ_S hJ (by decide) (IvC_S1 hJ.1)
  refine lv_aload_n hx hb dX0_become_16 rfl (lv_at hl 0 rfl) ?_
  refine lv_aload_n hx hb dX0_become_17 rfl (lv_at hl 1 rfl) ?_
  refine b_get (ci := 0) (C := RX0) (T := TX0) (Nf := 11) (v := .int (z51.1 5)) hx hb hts in_X0_become_X0 hown hK hH 15 (by decide) rfl rfl 2 (by decide) (hts (.fieldLink RX0 18 "StationLine$Bench" "beat" "I") (List.mem_of_getElem? (i := 3) rfl)) rfl dX0_become_18 ?_
  refine b_put (ci := 0) (C := RX0) (T := TX0) (Nf := 11) (v := .int (z51.1 5)) (ty := .int) hx hb hts in_X0_become_X0 tyX0 tyX0_ok nmX0 hown hK hH 1 (by decide) rfl rfl 2 (by decide) (hts (.fieldLink RX0 18 "StationLine$Bench" "beat" "I") (List.mem_of_getElem? (i := 3) rfl)) rfl (by decide +kernel) rfl rfl (Nat.le_of_ble_eq_true rfl) (upS z51 2 (z51.1 5)) rfl (enC_S2 _ _ _ _) dX0_become_21 (fun H locs hH => ?_)
  obtain ⟨z52, hz52⟩ : ∃ w : zS, w = upS z51 2 (z51.1 5) := ⟨_, rfl⟩
  rw [← hz52] at hH
  have hJ : jJ IvC 7 8176 0 z0 z52 := by rw [hz52]; exact jJ_S hJ (by decide) (IvC_S2 hJ.1)
  refine lv_iconst (v := 0) hx hb dX0_become_24 (by decide) ?_
  refine lv_istore_n (lv' := [(2, .int 0), (0, .ref (q 1)), (1, .ref (q 15))]) hx hb dX0_become_25 rfl hl (by decide) rfl (fun ls hl => ?_)
  exact HL26 _ 0 z52 H locs ls (iv_w (iv_lit (n := 0) 0 (by decide)) (by decide) (by decide)) ⟨(by rw [hz52, hz51, hz49]; exact ⟨rfl, rfl, rfl⟩), BcT_0 (same_tr (same_tr (fun a b ha _ => congrFun (show z49.2.1 (4 + a) = z0.2.1 (4 + a) by rw [hz49]; first | rfl | exact upA_n (by omega)) b) (fun a b ha _ => congrFun (show z51.2.1 (4 + a) = z49.2.1 (4 + a) by rw [hz51]; first | rfl | exact upA_n (by omega)) b)) (fun a b ha _ => congrFun (show z52.2.1 (4 + a) = z51.2.1 (4 + a) by rw [hz52]; first | rfl | exact upA_n (by omega)) b))⟩ hJ hH (lv_sub hl [1, 2, 0] rfl) rfl
set_option maxHeartbeats 4000000 in
set_option maxRecDepth 100000 in
theorem g_X1_setAt_13 (l : Launch) (D : va_G) (cy : Nat → ClassId) (q : Nat → Nat) (hq : bJ 66 q) (z0 : zS) (hI : IvC z0) (p0 : Int32) : bCi l yX1_setAt wsX1_setAt ({ frames := 0, cells := 0, slots := 0, locals := 0 }) D cy 66 (enC cy) q z0 [.ref (q 13), .int p0] (fun v z => jJ IvC 0 0 0 z0 z ∧ iv 0 1023 v) := by
  refine hM_i cX1_setAt (by decide) rfl (own := RX1) rfl hq (Nat.le_of_ble_eq_true rfl) ?_
  intro p e s m args below meth c Q ls H locs hx hb hml hown hts hK hZ hH hl hret
  have hl : lv_has ls 4 [(0, .ref (q 13)), (1, .int p0)] := hl
  have hJ : jJ IvC 0 0 0 z0 z0 := jJ_rf _ _ _ hI
  have HL4 : ∀ (n : Nat) (x2_4 : Int32) (x3_4 : Int32) (H : Heap) (locs : List Loc) (ls : Array Slot), iv 0 1023 x2_4 → iv 0 10 x3_4 → bH D 66 (enC cy) q z0 s.heap H locs → lv_has ls 4 [(0, .ref (q 13)), (1, .int p0), (2, .int x2_4), (3, .int x3_4)] → (10 - x3_4.toInt).toNat = n → W p l e ({ frames := 0, cells := 0, slots := 0, locals := 0 }) s m args below meth c H locs 0 0 Q (F0 m 4 ls []) := by
    intro n4
    induction n4 using Nat.strongRecOn with
    | ind n4 ih4 =>
      intro x2_4 x3_4 H locs ls h2_4 h3_4 hH hl hn4
      have HJ31 : ∀ (x2_31 : Int32) (H : Heap) (locs : List Loc) (ls : Array Slot), iv 0 1023 x2_31 → iv 0 9 x3_4 → iv 1 10 (z0.1 0) → bH D 66 (enC cy) q z0 s.heap H locs → lv_has ls 4 [(0, .ref (q 13)), (1, .int p0), (2, .int x2_31), (3, .int x3_4)] → W p l e ({ frames := 0, cells := 0, slots := 0, locals := 0 }) s m args below meth c H locs 0 0 Q (F0 m 31 ls []) := by
        intro x2_31 H locs ls h2_31 h3_31 gh0_31 hH hl
        have j78 : iv 1 10 (x3_4 + 1) := iv_add h3_31 (iv_lit (n := 1) 1 (by decide)) (by decide) (by decide) (by decide) (by decide)
        have e78 : (x3_4 + 1).toInt = x3_4.toInt + 1 := (iv_addE h3_31 (iv_lit (n := 1) 1 (by decide)) (by decide) (by decide)).trans rfl
        refine lv_iinc (v := (x3_4 + 1)) (lv' := [(3, .int (x3_4 + 1)), (0, .ref (q 13)), (1, .int p0), (2, .int x2_31)]) hx hb dX1_setAt_31 hl (k := 3) rfl rfl (by decide) rfl (fun ls hl => ?_)
        refine lv_goto (tgt := 4) hx hb dX1_setAt_34 (by decide) ?_
        exact ih4 _ (ms_up e78 j78.2 hn4) x2_31 (x3_4 + 1)  H locs ls h2_31 (iv_w j78 (by decide) (by decide))  hH (lv_sub hl [1, 2, 3, 0] rfl) rfl
      refine lv_iload_n hx hb dX1_setAt_4 rfl (lv_at hl 3 rfl) ?_
      refine lv_aload_n hx hb dX1_setAt_5 rfl (lv_at hl 0 rfl) ?_
      refine b_get (ci := 1) (C := RX1) (T := TX1) (Nf := 2) (v := .ref (q 1)) hx hb hts in_X1_setAt_X1 hown hK hH 13 (by decide) rfl rfl 0 (by decide) (hts (.fieldLink RX1 15 "StationLine$Putting" "bench" "LStationLine$Bench;") (List.mem_of_getElem? (i := 1) rfl)) rfl dX1_setAt_6 ?_
      refine b_get (ci := 0) (C := RX0) (T := TX0) (Nf := 11) (v := .int (z0.1 0)) hx hb hts in_X1_setAt_X0 hown hK hH 1 (by decide) rfl rfl 0 (by decide) (hts (.fieldLink RX1 25 "StationLine$Bench" "size" "I") (List.mem_of_getElem? (i := 2) rfl)) rfl dX1_setAt_9 ?_
      have i79 := IvC_s0 hJ.1
      refine lv_icmp_ge (tgt := 37) hx hb dX1_setAt_12 (by decide) (fun c80 => ?_) (fun c80 => ?_)
      · skip
        refine lv_iload_n hx hb dX1_setAt_37 rfl (lv_at hl 2 rfl) ?_
        exact hret _ z0 H locs _ _ ⟨hJ, h2_4⟩ hH dX1_setAt_38
      · skip
        have k82a : iv 0 9 x3_4 := iv_ltl (iv_nLe c80) h3_4 i79 (by decide)
        have k82b : iv 1 10 (z0.1 0) := iv_ltr (iv_nLe c80) h3_4 i79 (by decide)
        refine lv_aload_n hx hb dX1_setAt_15 rfl (lv_at hl 0 rfl) ?_
        refine b_get (ci := 1) (C := RX1) (T := TX1) (Nf := 2) (v := .ref (q 14)) hx hb hts in_X1_setAt_X1 hown hK hH 13 (by decide) rfl rfl 1 (by decide) (hts (.fieldLink RX1 9 "StationLine$Putting" "row" "[I") (List.mem_of_getElem? (i := 3) rfl)) rfl dX1_setAt_16 ?_
        refine lv_iload_n hx hb dX1_setAt_19 rfl (lv_at hl 3 rfl) ?_
        refine b_iald (v := z0.2.1 14 (x3_4 : Int32).toNatClampNeg) hx hb hK hH 14 (by decide) rfl (iv_in k82a (by decide) (by decide)) rfl dX1_setAt_20 ?_
        have i83 : iv 0 10 (z0.2.1 14 (x3_4 : Int32).toNatClampNeg) := IvC_a14 hJ.1 _ (b_inlt (iv_in k82a (by decide) (by decide)))
        refine lv_iload_n hx hb dX1_setAt_21 rfl (lv_at hl 1 rfl) ?_
        refine lv_icmp_ne (tgt := 31) hx hb dX1_setAt_22 (by decide) (fun c84 => ?_) (fun c84 => ?_)
        · skip
          exact HJ31 x2_4  H locs ls h2_4 k82a k82b  hH (lv_sub hl [0, 1, 2, 3] rfl)
        · skip
          have k86b : iv 0 10 p0 := iv_eql ((iv_Eq c84)).symm (iv_all p0) i83 (by decide) (by decide)
          refine lv_iload_n hx hb dX1_setAt_25 rfl (lv_at hl 2 rfl) ?_
          refine lv_iconst (v := 1) hx hb dX1_setAt_26 (by decide) ?_
          refine lv_iload_n hx hb dX1_setAt_27 rfl (lv_at hl 3 rfl) ?_
          refine lv_ishl hx hb dX1_setAt_28 ?_
          refine h_i (a := 1) (b := 512) (iv_bit k82a (by decide) (by decide)) (fun w87 i87 => ?_)
          refine lv_ior hx hb dX1_setAt_29 ?_
          refine h_i (a := 0) (b := 1023) (iv_or 10 (b := 1023) (d := 512) (iv_w h2_4 (by decide) (by decide)) (iv_w i87 (by decide) (by decide)) (by decide) (by decide) (by decide) (by decide)) (fun w88 i88 => ?_)
          refine lv_istore_n (lv' := [(2, .int w88), (0, .ref (q 13)), (1, .int p0), (3, .int x3_4)]) hx hb dX1_setAt_30 rfl hl (by decide) rfl (fun ls hl => ?_)
          exact HJ31 w88  H locs ls i88 k82a k82b  hH (lv_sub hl [1, 2, 0, 3] rfl)
  refine lv_iconst (v := 0) hx hb dX1_setAt_0 (by decide) ?_
  refine lv_istore_n (lv' := [(2, .int 0), (0, .ref (q 13)), (1, .int p0)]) hx hb dX1_setAt_1 rfl hl (by decide) rfl (fun ls hl => ?_)
  refine lv_iconst (v := 0) hx hb dX1_setAt_2 (by decide) ?_
  refine lv_istore_n (lv' := [(3, .int 0), (2, .int 0), (0, .ref (q 13)), (1, .int p0)]) hx hb dX1_setAt_3 rfl hl (by decide) rfl (fun ls hl => ?_)
  exact HL4 _ 0 0  H locs ls (iv_w (iv_lit (n := 0) 0 (by decide)) (by decide) (by decide)) (iv_w (iv_lit (n := 0) 0 (by decide)) (by decide) (by decide))  hH (lv_sub hl [2, 3, 1, 0] rfl) rfl
set_option maxHeartbeats 4000000 in
set_option maxRecDepth 100000 in
theorem g_X1_setUpTo_13 (l : Launch) (D : va_G) (cy : Nat → ClassId) (q : Nat → Nat) (hq : bJ 66 q) (z0 : zS) (hI : IvC z0) (p0 : Int32) : bCi l yX1_setUpTo wsX1_setUpTo ({ frames := 0, cells := 0, slots := 0, locals := 0 }) D cy 66 (enC cy) q z0 [.ref (q 13), .int p0] (fun v z => jJ IvC 0 0 0 z0 z ∧ iv 0 1023 v) := by
  refine hM_i cX1_setUpTo (by decide) rfl (own := RX1) rfl hq (Nat.le_of_ble_eq_true rfl) ?_
  intro p e s m args below meth c Q ls H locs hx hb hml hown hts hK hZ hH hl hret
  have hl : lv_has ls 4 [(0, .ref (q 13)), (1, .int p0)] := hl
  have hJ : jJ IvC 0 0 0 z0 z0 := jJ_rf _ _ _ hI
  have HL4 : ∀ (n : Nat) (x2_4 : Int32) (x3_4 : Int32) (H : Heap) (locs : List Loc) (ls : Array Slot), iv 0 1023 x2_4 → iv 0 10 x3_4 → bH D 66 (enC cy) q z0 s.heap H locs → lv_has ls 4 [(0, .ref (q 13)), (1, .int p0), (2, .int x2_4), (3, .int x3_4)] → (10 - x3_4.toInt).toNat = n → W p l e ({ frames := 0, cells := 0, slots := 0, locals := 0 }) s m args below meth c H locs 0 0 Q (F0 m 4 ls []) := by
    intro n4
    induction n4 using Nat.strongRecOn with
    | ind n4 ih4 =>
      intro x2_4 x3_4 H locs ls h2_4 h3_4 hH hl hn4
      have HJ40 : ∀ (x2_40 : Int32) (H : Heap) (locs : List Loc) (ls : Array Slot), iv 0 1023 x2_40 → iv 0 9 x3_4 → iv 1 10 (z0.1 0) → bH D 66 (enC cy) q z0 s.heap H locs → lv_has ls 4 [(0, .ref (q 13)), (1, .int p0), (2, .int x2_40), (3, .int x3_4)] → W p l e ({ frames := 0, cells := 0, slots := 0, locals := 0 }) s m args below meth c H locs 0 0 Q (F0 m 40 ls []) := by
        intro x2_40 H locs ls h2_40 h3_40 gh0_40 hH hl
        have j106 : iv 1 10 (x3_4 + 1) := iv_add h3_40 (iv_lit (n := 1) 1 (by decide)) (by decide) (by decide) (by decide) (by decide)
        have e106 : (x3_4 + 1).toInt = x3_4.toInt + 1 := (iv_addE h3_40 (iv_lit (n := 1) 1 (by decide)) (by decide) (by decide)).trans rfl
        refine lv_iinc (v := (x3_4 + 1)) (lv' := [(3, .int (x3_4 + 1)), (0, .ref (q 13)), (1, .int p0), (2, .int x2_40)]) hx hb dX1_setUpTo_40 hl (k := 3) rfl rfl (by decide) rfl (fun ls hl => ?_)
        refine lv_goto (tgt := 4) hx hb dX1_setUpTo_43 (by decide) ?_
        exact ih4 _ (ms_up e106 j106.2 hn4) x2_40 (x3_4 + 1)  H locs ls h2_40 (iv_w j106 (by decide) (by decide))  hH (lv_sub hl [1, 2, 3, 0] rfl) rfl
      refine lv_iload_n hx hb dX1_setUpTo_4 rfl (lv_at hl 3 rfl) ?_
      refine lv_aload_n hx hb dX1_setUpTo_5 rfl (lv_at hl 0 rfl) ?_
      refine b_get (ci := 1) (C := RX1) (T := TX1) (Nf := 2) (v := .ref (q 1)) hx hb hts in_X1_setUpTo_X1 hown hK hH 13 (by decide) rfl rfl 0 (by decide) (hts (.fieldLink RX1 15 "StationLine$Putting" "bench" "LStationLine$Bench;") (List.mem_of_getElem? (i := 1) rfl)) rfl dX1_setUpTo_6 ?_
      refine b_get (ci := 0) (C := RX0) (T := TX0) (Nf := 11) (v := .int (z0.1 0)) hx hb hts in_X1_setUpTo_X0 hown hK hH 1 (by decide) rfl rfl 0 (by decide) (hts (.fieldLink RX1 25 "StationLine$Bench" "size" "I") (List.mem_of_getElem? (i := 2) rfl)) rfl dX1_setUpTo_9 ?_
      have i107 := IvC_s0 hJ.1
      refine lv_icmp_ge (tgt := 46) hx hb dX1_setUpTo_12 (by decide) (fun c108 => ?_) (fun c108 => ?_)
      · skip
        refine lv_iload_n hx hb dX1_setUpTo_46 rfl (lv_at hl 2 rfl) ?_
        exact hret _ z0 H locs _ _ ⟨hJ, h2_4⟩ hH dX1_setUpTo_47
      · skip
        have k110a : iv 0 9 x3_4 := iv_ltl (iv_nLe c108) h3_4 i107 (by decide)
        have k110b : iv 1 10 (z0.1 0) := iv_ltr (iv_nLe c108) h3_4 i107 (by decide)
        refine lv_aload_n hx hb dX1_setUpTo_15 rfl (lv_at hl 0 rfl) ?_
        refine b_get (ci := 1) (C := RX1) (T := TX1) (Nf := 2) (v := .ref (q 14)) hx hb hts in_X1_setUpTo_X1 hown hK hH 13 (by decide) rfl rfl 1 (by decide) (hts (.fieldLink RX1 9 "StationLine$Putting" "row" "[I") (List.mem_of_getElem? (i := 3) rfl)) rfl dX1_setUpTo_16 ?_
        refine lv_iload_n hx hb dX1_setUpTo_19 rfl (lv_at hl 3 rfl) ?_
        refine b_iald (v := z0.2.1 14 (x3_4 : Int32).toNatClampNeg) hx hb hK hH 14 (by decide) rfl (iv_in k110a (by decide) (by decide)) rfl dX1_setUpTo_20 ?_
        have i111 : iv 0 10 (z0.2.1 14 (x3_4 : Int32).toNatClampNeg) := IvC_a14 hJ.1 _ (b_inlt (iv_in k110a (by decide) (by decide)))
        refine lv_if_le (tgt := 40) hx hb dX1_setUpTo_21 (by decide) (fun c112 => ?_) (fun c112 => ?_)
        · skip
          have k113a : iv 0 0 (z0.2.1 14 (x3_4 : Int32).toNatClampNeg) := iv_lel (iv_Le c112) i111 (iv_lit (n := 0) 0 (by decide))
          exact HJ40 x2_4  H locs ls h2_4 k110a k110b  hH (lv_sub hl [0, 1, 2, 3] rfl)
        · skip
          have k114b : iv 1 10 (z0.2.1 14 (x3_4 : Int32).toNatClampNeg) := iv_ltr (iv_nLe c112) (iv_lit (n := 0) 0 (by decide)) i111 (by decide)
          refine lv_aload_n hx hb dX1_setUpTo_24 rfl (lv_at hl 0 rfl) ?_
          refine b_get (ci := 1) (C := RX1) (T := TX1) (Nf := 2) (v := .ref (q 14)) hx hb hts in_X1_setUpTo_X1 hown hK hH 13 (by decide) rfl rfl 1 (by decide) (hts (.fieldLink RX1 9 "StationLine$Putting" "row" "[I") (List.mem_of_getElem? (i := 3) rfl)) rfl dX1_setUpTo_25 ?_
          refine lv_iload_n hx hb dX1_setUpTo_28 rfl (lv_at hl 3 rfl) ?_
          refine b_iald (v := z0.2.1 14 (x3_4 : Int32).toNatClampNeg) hx hb hK hH 14 (by decide) rfl (iv_in k110a (by decide) (by decide)) rfl dX1_setUpTo_29 ?_
          have i115 : iv 0 10 (z0.2.1 14 (x3_4 : Int32).toNatClampNeg) := IvC_a14 hJ.1 _ (b_inlt (iv_in k110a (by decide) (by decide)))
          refine lv_iload_n hx hb dX1_setUpTo_30 rfl (lv_at hl 1 rfl) ?_
          refine lv_icmp_gt (tgt := 40) hx hb dX1_setUpTo_31 (by decide) (fun c116 => ?_) (fun c116 => ?_)
          · skip
            have k117a : iv (-2147483648) 9 p0 := iv_ltl (iv_Lt c116) (iv_all p0) i115 (by decide)
            exact HJ40 x2_4  H locs ls h2_4 k110a k110b  hH (lv_sub hl [0, 1, 2, 3] rfl)
          · skip
            have k118b : iv 0 2147483647 p0 := iv_ler (iv_nLt c116) i115 (iv_all p0)
            refine lv_iload_n hx hb dX1_setUpTo_34 rfl (lv_at hl 2 rfl) ?_
            refine lv_iconst (v := 1) hx hb dX1_setUpTo_35 (by decide) ?_
            refine lv_iload_n hx hb dX1_setUpTo_36 rfl (lv_at hl 3 rfl) ?_
            refine lv_ishl hx hb dX1_setUpTo_37 ?_
            refine h_i (a := 1) (b := 512) (iv_bit k110a (by decide) (by decide)) (fun w119 i119 => ?_)
            refine lv_ior hx hb dX1_setUpTo_38 ?_
            refine h_i (a := 0) (b := 1023) (iv_or 10 (b := 1023) (d := 512) (iv_w h2_4 (by decide) (by decide)) (iv_w i119 (by decide) (by decide)) (by decide) (by decide) (by decide) (by decide)) (fun w120 i120 => ?_)
            refine lv_istore_n (lv' := [(2, .int w120), (0, .ref (q 13)), (1, .int p0), (3, .int x3_4)]) hx hb dX1_setUpTo_39 rfl hl (by decide) rfl (fun ls hl => ?_)
            exact HJ40 w120  H locs ls i120 k110a k110b  hH (lv_sub hl [1, 2, 0, 3] rfl)
  refine lv_iconst (v := 0) hx hb dX1_setUpTo_0 (by decide) ?_
  refine lv_istore_n (lv' := [(2, .int 0), (0, .ref (q 13)), (1, .int p0)]) hx hb dX1_setUpTo_1 rfl hl (by decide) rfl (fun ls hl => ?_)
  refine lv_iconst (v := 0) hx hb dX1_setUpTo_2 (by decide) ?_
  refine lv_istore_n (lv' := [(3, .int 0), (2, .int 0), (0, .ref (q 13)), (1, .int p0)]) hx hb dX1_setUpTo_3 rfl hl (by decide) rfl (fun ls hl => ?_)
  exact HL4 _ 0 0  H locs ls (iv_w (iv_lit (n := 0) 0 (by decide)) (by decide) (by decide)) (iv_w (iv_lit (n := 0) 0 (by decide)) (by decide) (by decide))  hH (lv_sub hl [2, 3, 1, 0] rfl) rfl
set_option maxHeartbeats 4000000 in
set_option maxRecDepth 100000 in
theorem g_X1_greatest_13 (l : Launch) (D : va_G) (cy : Nat → ClassId) (q : Nat → Nat) (hq : bJ 66 q) (z0 : zS) (hI : IvC z0)  : bCi l yX1_greatest wsX1_greatest ({ frames := 1, cells := 0, slots := 0, locals := 28 }) D cy 66 (enC cy) q z0 [.ref (q 13)] (fun v z => jJ IvC 0 0 0 z0 z ∧ iv 0 10 v) := by
  refine hM_i cX1_greatest (by decide) rfl (own := RX1) rfl hq (Nat.le_of_ble_eq_true rfl) ?_
  intro p e s m args below meth c Q ls H locs hx hb hml hown hts hK hZ hH hl hret
  have hl : lv_has ls 3 [(0, .ref (q 13))] := hl
  have hJ : jJ IvC 0 0 0 z0 z0 := jJ_rf _ _ _ hI
  have HL4 : ∀ (n : Nat) (x1_4 : Int32) (x2_4 : Int32) (H : Heap) (locs : List Loc) (ls : Array Slot), iv 0 10 x1_4 → iv 0 10 x2_4 → bH D 66 (enC cy) q z0 s.heap H locs → lv_has ls 3 [(0, .ref (q 13)), (1, .int x1_4), (2, .int x2_4)] → (10 - x2_4.toInt).toNat = n → W p l e ({ frames := 1, cells := 0, slots := 0, locals := 28 }) s m args below meth c H locs 0 0 Q (F0 m 4 ls []) := by
    intro n4
    induction n4 using Nat.strongRecOn with
    | ind n4 ih4 =>
      intro x1_4 x2_4 H locs ls h1_4 h2_4 hH hl hn4
      refine lv_iload_n hx hb dX1_greatest_4 rfl (lv_at hl 2 rfl) ?_
      refine lv_aload_n hx hb dX1_greatest_5 rfl (lv_at hl 0 rfl) ?_
      refine b_get (ci := 1) (C := RX1) (T := TX1) (Nf := 2) (v := .ref (q 1)) hx hb hts in_X1_greatest_X1 hown hK hH 13 (by decide) rfl rfl 0 (by decide) (hts (.fieldLink RX1 15 "StationLine$Putting" "bench" "LStationLine$Bench;") (List.mem_of_getElem? (i := 1) rfl)) rfl dX1_greatest_6 ?_
      refine b_get (ci := 0) (C := RX0) (T := TX0) (Nf := 11) (v := .int (z0.1 0)) hx hb hts in_X1_greatest_X0 hown hK hH 1 (by decide) rfl rfl 0 (by decide) (hts (.fieldLink RX1 25 "StationLine$Bench" "size" "I") (List.mem_of_getElem? (i := 2) rfl)) rfl dX1_greatest_9 ?_
      have i50 := IvC_s0 hJ.1
      refine lv_icmp_ge (tgt := 32) hx hb dX1_greatest_12 (by decide) (fun c51 => ?_) (fun c51 => ?_)
      · skip
        refine lv_iload_n hx hb dX1_greatest_32 rfl (lv_at hl 1 rfl) ?_
        exact hret _ z0 H locs _ _ ⟨hJ, h1_4⟩ hH dX1_greatest_33
      · skip
        have k53a : iv 0 9 x2_4 := iv_ltl (iv_nLe c51) h2_4 i50 (by decide)
        have k53b : iv 1 10 (z0.1 0) := iv_ltr (iv_nLe c51) h2_4 i50 (by decide)
        refine lv_iload_n hx hb dX1_greatest_15 rfl (lv_at hl 1 rfl) ?_
        refine lv_aload_n hx hb dX1_greatest_16 rfl (lv_at hl 0 rfl) ?_
        refine b_get (ci := 1) (C := RX1) (T := TX1) (Nf := 2) (v := .ref (q 14)) hx hb hts in_X1_greatest_X1 hown hK hH 13 (by decide) rfl rfl 1 (by decide) (hts (.fieldLink RX1 9 "StationLine$Putting" "row" "[I") (List.mem_of_getElem? (i := 3) rfl)) rfl dX1_greatest_17 ?_
        refine lv_iload_n hx hb dX1_greatest_20 rfl (lv_at hl 2 rfl) ?_
        refine b_iald (v := z0.2.1 14 (x2_4 : Int32).toNatClampNeg) hx hb hK hH 14 (by decide) rfl (iv_in k53a (by decide) (by decide)) rfl dX1_greatest_21 ?_
        have i54 : iv 0 10 (z0.2.1 14 (x2_4 : Int32).toNatClampNeg) := IvC_a14 hJ.1 _ (b_inlt (iv_in k53a (by decide) (by decide)))
        refine va_mmax hx hb (by rw [hml]; exact hl.1.symm) hown (hts (.methodLink RX1 31 Lib.Math.max.name) (List.mem_of_getElem? (i := 4) rfl)) (hts (.static Lib.Math.max.name) (List.mem_of_getElem? (i := 5) rfl)) (hts (.initialized "java/lang/Math") (List.mem_of_getElem? (i := 6) rfl)) (hts (.code Lib.Math.max.name Lib.Math.max.code 2 (some .int)) (List.mem_of_getElem? (i := 7) rfl)) (Nat.le_of_ble_eq_true rfl) (Nat.le_of_ble_eq_true rfl) (Nat.zero_le _) (Nat.zero_le _) dX1_greatest_22 ?_
        refine h_i (a := 0) (b := 10) (iv_max h1_4 i54 (by decide) (by decide) (by decide)) (fun w55 i55 => ?_)
        refine lv_istore_n (lv' := [(1, .int w55), (0, .ref (q 13)), (2, .int x2_4)]) hx hb dX1_greatest_25 rfl hl (by decide) rfl (fun ls hl => ?_)
        have j56 : iv 1 10 (x2_4 + 1) := iv_add k53a (iv_lit (n := 1) 1 (by decide)) (by decide) (by decide) (by decide) (by decide)
        have e56 : (x2_4 + 1).toInt = x2_4.toInt + 1 := (iv_addE k53a (iv_lit (n := 1) 1 (by decide)) (by decide) (by decide)).trans rfl
        refine lv_iinc (v := (x2_4 + 1)) (lv' := [(2, .int (x2_4 + 1)), (1, .int w55), (0, .ref (q 13))]) hx hb dX1_greatest_26 hl (k := 2) rfl rfl (by decide) rfl (fun ls hl => ?_)
        refine lv_goto (tgt := 4) hx hb dX1_greatest_29 (by decide) ?_
        exact ih4 _ (ms_up e56 j56.2 hn4) w55 (x2_4 + 1)  H locs ls i55 (iv_w j56 (by decide) (by decide))  hH (lv_sub hl [2, 1, 0] rfl) rfl
  refine lv_iconst (v := 0) hx hb dX1_greatest_0 (by decide) ?_
  refine lv_istore_n (lv' := [(1, .int 0), (0, .ref (q 13))]) hx hb dX1_greatest_1 rfl hl (by decide) rfl (fun ls hl => ?_)
  refine lv_iconst (v := 0) hx hb dX1_greatest_2 (by decide) ?_
  refine lv_istore_n (lv' := [(2, .int 0), (1, .int 0), (0, .ref (q 13))]) hx hb dX1_greatest_3 rfl hl (by decide) rfl (fun ls hl => ?_)
  exact HL4 _ 0 0  H locs ls (iv_w (iv_lit (n := 0) 0 (by decide)) (by decide) (by decide)) (iv_w (iv_lit (n := 0) 0 (by decide)) (by decide) (by decide))  hH (lv_sub hl [2, 1, 0] rfl) rfl
set_option maxHeartbeats 4000000 in
set_option maxRecDepth 100000 in
theorem g_X1_causeOf_13 (l : Launch) (D : va_G) (cy : Nat → ClassId) (q : Nat → Nat) (hq : bJ 66 q) (z0 : zS) (hI : IvC z0) (p0 : Int32) (hp0 : iv 0 9 p0) : bCi l yX1_causeOf wsX1_causeOf ({ frames := 3, cells := 0, slots := 0, locals := 74 }) D cy 66 (enC cy) q z0 [.ref (q 13), .int p0] (fun v z => jJ IvC 0 0 0 z0 z ∧ iv 0 6 v) := by
  refine hM_i cX1_causeOf (by decide) rfl (own := RX1) rfl hq (Nat.le_of_ble_eq_true rfl) ?_
  intro p e s m args below meth c Q ls H locs hx hb hml hown hts hK hZ hH hl hret
  have hl : lv_has ls 4 [(0, .ref (q 13)), (1, .int p0)] := hl
  have hJ : jJ IvC 0 0 0 z0 z0 := jJ_rf _ _ _ hI
  have HJ100 : ∀ (x2_100 : Int32) (H : Heap) (locs : List Loc) (ls : Array Slot), iv 1 10 x2_100 → bH D 66 (enC cy) q z0 s.heap H locs → lv_has ls 4 [(0, .ref (q 13)), (1, .int p0), (2, .int x2_100)] → W p l e ({ frames := 3, cells := 0, slots := 0, locals := 74 }) s m args below meth c H locs 0 0 Q (F0 m 100 ls []) := by
    intro x2_100 H locs ls h2_100 hH hl
    refine lv_aload_n hx hb dX1_causeOf_100 rfl (lv_at hl 0 rfl) ?_
    refine b_get (ci := 1) (C := RX1) (T := TX1) (Nf := 2) (v := .ref (q 1)) hx hb hts in_X1_causeOf_X1 hown hK hH 13 (by decide) rfl rfl 0 (by decide) (hts (.fieldLink RX1 15 "StationLine$Putting" "bench" "LStationLine$Bench;") (List.mem_of_getElem? (i := 2) rfl)) rfl dX1_causeOf_101 ?_
    refine lv_iload_n hx hb dX1_causeOf_104 rfl (lv_at hl 1 rfl) ?_
    refine lv_aload_n hx hb dX1_causeOf_105 rfl (lv_at hl 0 rfl) ?_
    refine lv_iload_n hx hb dX1_causeOf_106 rfl (lv_at hl 2 rfl) ?_
    refine b_calli (As := [.int x2_100]) (rest := [.int p0, .ref (q 1)]) ⟨hx, hb, hml, hown, hts⟩ 13 1 (g_X1_setUpTo_13 l D cy q hH.2.1 z0 hJ.1 x2_100) (cwV 1 hts gX1_causeOf_X1_setUpTo rfl rfl rfl (by decide +kernel) ⟨Nat.le_of_ble_eq_true rfl, Nat.le_of_ble_eq_true rfl⟩) hK hZ hH (by decide) rfl rfl rfl hl.1 rfl (Nat.le_of_ble_eq_true rfl) ⟨Nat.zero_le _, Nat.zero_le _⟩ dX1_causeOf_107 (fun w31 z31 H locs hp hH => ?_)
    rw [Ag_0 hp.1.2] at hH
    have i31 := hp.2
    refine b_calli (As := [.int p0, .int w31]) (rest := []) ⟨hx, hb, hml, hown, hts⟩ 1 0 (g_X0_isOpen_1 l D cy q hH.2.1 z0 hJ.1 p0 hp0 w31) (cwV 2 hts gX1_causeOf_X0_isOpen rfl rfl rfl (by decide +kernel) ⟨Nat.le_of_ble_eq_true rfl, Nat.le_of_ble_eq_true rfl⟩) hK hZ hH (by decide) rfl rfl rfl hl.1 rfl (Nat.le_of_ble_eq_true rfl) ⟨Nat.zero_le _, Nat.zero_le _⟩ dX1_causeOf_110 (fun w32 z32 H locs hp hH => ?_)
    rw [Ag_0 hp.1.2] at hH
    have i32 := hp.2
    refine lv_if_eq (tgt := 120) hx hb dX1_causeOf_113 (by decide) (fun c33 => ?_) (fun c33 => ?_)
    · skip
      have k34a : iv 0 0 w32 := iv_eql (iv_Eq c33) i32 (iv_lit (n := 0) 0 (by decide)) (by decide) (by decide)
      refine lv_bipush (v := 6) hx hb dX1_causeOf_120 (by decide) ?_
      exact hret _ z0 H locs _ _ ⟨hJ, (iv_w (iv_lit (n := 6) 6 (by decide)) (by decide) (by decide))⟩ hH dX1_causeOf_122
    · skip
      have k35a : iv 1 1 w32 := iv_neLo (iv_nEq c33) i32 (by decide) (by decide)
      refine lv_iconst (v := 0) hx hb dX1_causeOf_116 (by decide) ?_
      refine lv_goto (tgt := 122) hx hb dX1_causeOf_117 (by decide) ?_
      exact hret _ z0 H locs _ _ ⟨hJ, (iv_w (iv_lit (n := 0) 0 (by decide)) (by decide) (by decide))⟩ hH dX1_causeOf_122
  refine lv_aload_n hx hb dX1_causeOf_0 rfl (lv_at hl 0 rfl) ?_
  refine b_get (ci := 1) (C := RX1) (T := TX1) (Nf := 2) (v := .ref (q 14)) hx hb hts in_X1_causeOf_X1 hown hK hH 13 (by decide) rfl rfl 1 (by decide) (hts (.fieldLink RX1 9 "StationLine$Putting" "row" "[I") (List.mem_of_getElem? (i := 1) rfl)) rfl dX1_causeOf_1 ?_
  refine lv_iload_n hx hb dX1_causeOf_4 rfl (lv_at hl 1 rfl) ?_
  refine b_iald (v := z0.2.1 14 (p0 : Int32).toNatClampNeg) hx hb hK hH 14 (by decide) rfl (iv_in hp0 (by decide) (by decide)) rfl dX1_causeOf_5 ?_
  have i36 : iv 0 10 (z0.2.1 14 (p0 : Int32).toNatClampNeg) := IvC_a14 hJ.1 _ (b_inlt (iv_in hp0 (by decide) (by decide)))
  refine lv_istore_n (lv' := [(2, .int (z0.2.1 14 (p0 : Int32).toNatClampNeg)), (0, .ref (q 13)), (1, .int p0)]) hx hb dX1_causeOf_6 rfl hl (by decide) rfl (fun ls hl => ?_)
  refine lv_iload_n hx hb dX1_causeOf_7 rfl (lv_at hl 0 rfl) ?_
  refine lv_if_ne (tgt := 13) hx hb dX1_causeOf_8 (by decide) (fun c37 => ?_) (fun c37 => ?_)
  · skip
    have k38a : iv 1 10 (z0.2.1 14 (p0 : Int32).toNatClampNeg) := iv_neLo (iv_nEq c37) i36 (by decide) (by decide)
    refine lv_aload_n hx hb dX1_causeOf_13 rfl (lv_at hl 1 rfl) ?_
    refine lv_iload_n hx hb dX1_causeOf_14 rfl (lv_at hl 0 rfl) ?_
    refine b_calli (As := [.int (z0.2.1 14 (p0 : Int32).toNatClampNeg)]) (rest := []) ⟨hx, hb, hml, hown, hts⟩ 13 1 (g_X1_setAt_13 l D cy q hH.2.1 z0 hJ.1 (z0.2.1 14 (p0 : Int32).toNatClampNeg)) (cwV 1 hts gX1_causeOf_X1_setAt rfl rfl rfl (by decide +kernel) ⟨Nat.le_of_ble_eq_true rfl, Nat.le_of_ble_eq_true rfl⟩) hK hZ hH (by decide) rfl rfl rfl hl.1 rfl (Nat.le_of_ble_eq_true rfl) ⟨Nat.zero_le _, Nat.zero_le _⟩ dX1_causeOf_15 (fun w39 z39 H locs hp hH => ?_)
    rw [Ag_0 hp.1.2] at hH
    have i39 := hp.2
    refine lv_istore_n (lv' := [(3, .int w39), (2, .int (z0.2.1 14 (p0 : Int32).toNatClampNeg)), (0, .ref (q 13)), (1, .int p0)]) hx hb dX1_causeOf_18 rfl hl (by decide) rfl (fun ls hl => ?_)
    refine lv_aload_n hx hb dX1_causeOf_19 rfl (lv_at hl 2 rfl) ?_
    refine b_get (ci := 1) (C := RX1) (T := TX1) (Nf := 2) (v := .ref (q 1)) hx hb hts in_X1_causeOf_X1 hown hK hH 13 (by decide) rfl rfl 0 (by decide) (hts (.fieldLink RX1 15 "StationLine$Putting" "bench" "LStationLine$Bench;") (List.mem_of_getElem? (i := 2) rfl)) rfl dX1_causeOf_20 ?_
    refine lv_iload_n hx hb dX1_causeOf_23 rfl (lv_at hl 0 rfl) ?_
    refine b_calli (As := [.int w39]) (rest := []) ⟨hx, hb, hml, hown, hts⟩ 1 0 (g_X0_loadOf_1 l D cy q hH.2.1 z0 hJ.1 w39) (cwV 1 hts gX1_causeOf_X0_loadOf rfl rfl rfl (by decide +kernel) ⟨Nat.le_of_ble_eq_true rfl, Nat.le_of_ble_eq_true rfl⟩) hK hZ hH (by decide) rfl rfl rfl hl.1 rfl (Nat.le_of_ble_eq_true rfl) ⟨Nat.zero_le _, Nat.zero_le _⟩ dX1_causeOf_24 (fun w40 z40 H locs hp hH => ?_)
    rw [Ag_0 hp.1.2] at hH
    refine lv_aload_n hx hb dX1_causeOf_27 rfl (lv_at hl 2 rfl) ?_
    refine b_get (ci := 1) (C := RX1) (T := TX1) (Nf := 2) (v := .ref (q 1)) hx hb hts in_X1_causeOf_X1 hown hK hH 13 (by decide) rfl rfl 0 (by decide) (hts (.fieldLink RX1 15 "StationLine$Putting" "bench" "LStationLine$Bench;") (List.mem_of_getElem? (i := 2) rfl)) rfl dX1_causeOf_28 ?_
    refine b_calli (As := []) (rest := [.int w40]) ⟨hx, hb, hml, hown, hts⟩ 1 0 (g_X0_room_1 l D cy q hH.2.1 z0 hJ.1 ) (cwV 0 hts gX1_causeOf_X0_room rfl rfl rfl (by decide +kernel) ⟨Nat.le_of_ble_eq_true rfl, Nat.le_of_ble_eq_true rfl⟩) hK hZ hH (by decide) rfl rfl rfl hl.1 rfl (Nat.le_of_ble_eq_true rfl) ⟨Nat.zero_le _, Nat.zero_le _⟩ dX1_causeOf_31 (fun w41 z41 H locs hp hH => ?_)
    rw [Ag_0 hp.1.2] at hH
    refine lv_icmp_le (tgt := 39) hx hb dX1_causeOf_34 (by decide) (fun c42 => ?_) (fun c42 => ?_)
    · skip
      refine lv_aload_n hx hb dX1_causeOf_39 rfl (lv_at hl 2 rfl) ?_
      refine b_get (ci := 1) (C := RX1) (T := TX1) (Nf := 2) (v := .ref (q 1)) hx hb hts in_X1_causeOf_X1 hown hK hH 13 (by decide) rfl rfl 0 (by decide) (hts (.fieldLink RX1 15 "StationLine$Putting" "bench" "LStationLine$Bench;") (List.mem_of_getElem? (i := 2) rfl)) rfl dX1_causeOf_40 ?_
      refine b_get (ci := 0) (C := RX0) (T := TX0) (Nf := 11) (v := .ref (q 10)) hx hb hts in_X1_causeOf_X0 hown hK hH 1 (by decide) rfl rfl 8 (by decide) (hts (.fieldLink RX1 52 "StationLine$Bench" "together" "[I") (List.mem_of_getElem? (i := 3) rfl)) rfl dX1_causeOf_43 ?_
      refine lv_iload_n hx hb dX1_causeOf_46 rfl (lv_at hl 3 rfl) ?_
      refine b_iald (v := z0.2.1 10 (p0 : Int32).toNatClampNeg) hx hb hK hH 10 (by decide) rfl (iv_in hp0 (by decide) (by decide)) rfl dX1_causeOf_47 ?_
      refine lv_iload_n hx hb dX1_causeOf_48 rfl (lv_at hl 0 rfl) ?_
      refine lv_iconst (v := (-1)) hx hb dX1_causeOf_49 (by decide) ?_
      refine lv_ixor hx hb dX1_causeOf_50 ?_
      refine lv_topi (fun w44 _ => ?_)
      refine lv_iand hx hb dX1_causeOf_51 ?_
      refine lv_topi (fun w45 _ => ?_)
      refine lv_if_eq (tgt := 57) hx hb dX1_causeOf_52 (by decide) (fun c46 => ?_) (fun c46 => ?_)
      · skip
        have k47a : iv 0 0 w45 := iv_eql (iv_Eq c46) (iv_all w45) (iv_lit (n := 0) 0 (by decide)) (by decide) (by decide)
        refine lv_aload_n hx hb dX1_causeOf_57 rfl (lv_at hl 2 rfl) ?_
        refine b_get (ci := 1) (C := RX1) (T := TX1) (Nf := 2) (v := .ref (q 1)) hx hb hts in_X1_causeOf_X1 hown hK hH 13 (by decide) rfl rfl 0 (by decide) (hts (.fieldLink RX1 15 "StationLine$Putting" "bench" "LStationLine$Bench;") (List.mem_of_getElem? (i := 2) rfl)) rfl dX1_causeOf_58 ?_
        refine b_get (ci := 0) (C := RX0) (T := TX0) (Nf := 11) (v := .ref (q 11)) hx hb hts in_X1_causeOf_X0 hown hK hH 1 (by decide) rfl rfl 9 (by decide) (hts (.fieldLink RX1 55 "StationLine$Bench" "apart" "[I") (List.mem_of_getElem? (i := 4) rfl)) rfl dX1_causeOf_61 ?_
        refine lv_iload_n hx hb dX1_causeOf_64 rfl (lv_at hl 3 rfl) ?_
        refine b_iald (v := z0.2.1 11 (p0 : Int32).toNatClampNeg) hx hb hK hH 11 (by decide) rfl (iv_in hp0 (by decide) (by decide)) rfl dX1_causeOf_65 ?_
        refine lv_iload_n hx hb dX1_causeOf_66 rfl (lv_at hl 0 rfl) ?_
        refine lv_iand hx hb dX1_causeOf_67 ?_
        refine h_i (a := 0) (b := 1023) (iv_and2 (iv_all (z0.2.1 11 (p0 : Int32).toNatClampNeg)) i39 (by decide) (by decide)) (fun w48 i48 => ?_)
        refine lv_if_eq (tgt := 73) hx hb dX1_causeOf_68 (by decide) (fun c49 => ?_) (fun c49 => ?_)
        · skip
          have k50a : iv 0 0 w48 := iv_eql (iv_Eq c49) i48 (iv_lit (n := 0) 0 (by decide)) (by decide) (by decide)
          refine lv_aload_n hx hb dX1_causeOf_73 rfl (lv_at hl 2 rfl) ?_
          refine b_get (ci := 1) (C := RX1) (T := TX1) (Nf := 2) (v := .ref (q 1)) hx hb hts in_X1_causeOf_X1 hown hK hH 13 (by decide) rfl rfl 0 (by decide) (hts (.fieldLink RX1 15 "StationLine$Putting" "bench" "LStationLine$Bench;") (List.mem_of_getElem? (i := 2) rfl)) rfl dX1_causeOf_74 ?_
          refine b_get (ci := 0) (C := RX0) (T := TX0) (Nf := 11) (v := .ref (q 12)) hx hb hts in_X1_causeOf_X0 hown hK hH 1 (by decide) rfl rfl 10 (by decide) (hts (.fieldLink RX1 58 "StationLine$Bench" "held" "[I") (List.mem_of_getElem? (i := 5) rfl)) rfl dX1_causeOf_77 ?_
          refine lv_iload_n hx hb dX1_causeOf_80 rfl (lv_at hl 3 rfl) ?_
          refine b_iald (v := z0.2.1 12 (p0 : Int32).toNatClampNeg) hx hb hK hH 12 (by decide) rfl (iv_in hp0 (by decide) (by decide)) rfl dX1_causeOf_81 ?_
          refine lv_if_eq (tgt := 100) hx hb dX1_causeOf_82 (by decide) (fun c51 => ?_) (fun c51 => ?_)
          · skip
            have k52a : iv 0 0 (z0.2.1 12 (p0 : Int32).toNatClampNeg) := iv_eql (iv_Eq c51) (iv_all (z0.2.1 12 (p0 : Int32).toNatClampNeg)) (iv_lit (n := 0) 0 (by decide)) (by decide) (by decide)
            exact HJ100 (z0.2.1 14 (p0 : Int32).toNatClampNeg)  H locs ls k38a  hH (lv_sub hl [2, 3, 1] rfl)
          · skip
            refine lv_aload_n hx hb dX1_causeOf_85 rfl (lv_at hl 2 rfl) ?_
            refine b_get (ci := 1) (C := RX1) (T := TX1) (Nf := 2) (v := .ref (q 1)) hx hb hts in_X1_causeOf_X1 hown hK hH 13 (by decide) rfl rfl 0 (by decide) (hts (.fieldLink RX1 15 "StationLine$Putting" "bench" "LStationLine$Bench;") (List.mem_of_getElem? (i := 2) rfl)) rfl dX1_causeOf_86 ?_
            refine b_get (ci := 0) (C := RX0) (T := TX0) (Nf := 11) (v := .ref (q 12)) hx hb hts in_X1_causeOf_X0 hown hK hH 1 (by decide) rfl rfl 10 (by decide) (hts (.fieldLink RX1 58 "StationLine$Bench" "held" "[I") (List.mem_of_getElem? (i := 5) rfl)) rfl dX1_causeOf_89 ?_
            refine lv_iload_n hx hb dX1_causeOf_92 rfl (lv_at hl 3 rfl) ?_
            refine b_iald (v := z0.2.1 12 (p0 : Int32).toNatClampNeg) hx hb hK hH 12 (by decide) rfl (iv_in hp0 (by decide) (by decide)) rfl dX1_causeOf_93 ?_
            refine lv_iload_n hx hb dX1_causeOf_94 rfl (lv_at hl 1 rfl) ?_
            refine lv_icmp_eq (tgt := 100) hx hb dX1_causeOf_95 (by decide) (fun c54 => ?_) (fun c54 => ?_)
            · skip
              have k55a : iv 1 10 (z0.2.1 12 (p0 : Int32).toNatClampNeg) := iv_eql (iv_Eq c54) (iv_all (z0.2.1 12 (p0 : Int32).toNatClampNeg)) k38a (by decide) (by decide)
              exact HJ100 (z0.2.1 14 (p0 : Int32).toNatClampNeg)  H locs ls k38a  hH (lv_sub hl [2, 3, 1] rfl)
            · skip
              refine lv_iconst (v := 5) hx hb dX1_causeOf_98 (by decide) ?_
              exact hret _ z0 H locs _ _ ⟨hJ, (iv_w (iv_lit (n := 5) 5 (by decide)) (by decide) (by decide))⟩ hH dX1_causeOf_99
        · skip
          have k57a : iv 1 1023 w48 := iv_neLo (iv_nEq c49) i48 (by decide) (by decide)
          refine lv_iconst (v := 4) hx hb dX1_causeOf_71 (by decide) ?_
          exact hret _ z0 H locs _ _ ⟨hJ, (iv_w (iv_lit (n := 4) 4 (by decide)) (by decide) (by decide))⟩ hH dX1_causeOf_72
      · skip
        refine lv_iconst (v := 3) hx hb dX1_causeOf_55 (by decide) ?_
        exact hret _ z0 H locs _ _ ⟨hJ, (iv_w (iv_lit (n := 3) 3 (by decide)) (by decide) (by decide))⟩ hH dX1_causeOf_56
    · skip
      have k59a : iv (-2147483648) 2147483646 w41 := iv_ltl (iv_nLe c42) (iv_all w41) (iv_all w40) (by decide)
      have k59b : iv (-2147483647) 2147483647 w40 := iv_ltr (iv_nLe c42) (iv_all w41) (iv_all w40) (by decide)
      refine lv_iconst (v := 2) hx hb dX1_causeOf_37 (by decide) ?_
      exact hret _ z0 H locs _ _ ⟨hJ, (iv_w (iv_lit (n := 2) 2 (by decide)) (by decide) (by decide))⟩ hH dX1_causeOf_38
  · skip
    have k60a : iv 0 0 (z0.2.1 14 (p0 : Int32).toNatClampNeg) := iv_eql (iv_Eq c37) i36 (iv_lit (n := 0) 0 (by decide)) (by decide) (by decide)
    refine lv_iconst (v := 1) hx hb dX1_causeOf_11 (by decide) ?_
    exact hret _ z0 H locs _ _ ⟨hJ, (iv_w (iv_lit (n := 1) 1 (by decide)) (by decide) (by decide))⟩ hH dX1_causeOf_12
set_option maxHeartbeats 4000000 in
set_option maxRecDepth 100000 in
theorem g_X1_firstClash_13 (l : Launch) (D : va_G) (cy : Nat → ClassId) (q : Nat → Nat) (hq : bJ 66 q) (z0 : zS) (hI : IvC z0)  : bCi l yX1_firstClash wsX1_firstClash ({ frames := 4, cells := 0, slots := 0, locals := 97 }) D cy 66 (enC cy) q z0 [.ref (q 13)] (fun v z => jJ IvC 0 0 0 z0 z ∧ iv (-1) 9 v) := by
  refine hM_i cX1_firstClash (by decide) rfl (own := RX1) rfl hq (Nat.le_of_ble_eq_true rfl) ?_
  intro p e s m args below meth c Q ls H locs hx hb hml hown hts hK hZ hH hl hret
  have hl : lv_has ls 2 [(0, .ref (q 13))] := hl
  have hJ : jJ IvC 0 0 0 z0 z0 := jJ_rf _ _ _ hI
  have HL2 : ∀ (n : Nat) (x1_2 : Int32) (H : Heap) (locs : List Loc) (ls : Array Slot), iv 0 10 x1_2 → bH D 66 (enC cy) q z0 s.heap H locs → lv_has ls 2 [(0, .ref (q 13)), (1, .int x1_2)] → (10 - x1_2.toInt).toNat = n → W p l e ({ frames := 4, cells := 0, slots := 0, locals := 97 }) s m args below meth c H locs 0 0 Q (F0 m 2 ls []) := by
    intro n2
    induction n2 using Nat.strongRecOn with
    | ind n2 ih2 =>
      intro x1_2 H locs ls h1_2 hH hl hn2
      refine lv_iload_n hx hb dX1_firstClash_2 rfl (lv_at hl 1 rfl) ?_
      refine lv_aload_n hx hb dX1_firstClash_3 rfl (lv_at hl 0 rfl) ?_
      refine b_get (ci := 1) (C := RX1) (T := TX1) (Nf := 2) (v := .ref (q 1)) hx hb hts in_X1_firstClash_X1 hown hK hH 13 (by decide) rfl rfl 0 (by decide) (hts (.fieldLink RX1 15 "StationLine$Putting" "bench" "LStationLine$Bench;") (List.mem_of_getElem? (i := 1) rfl)) rfl dX1_firstClash_4 ?_
      refine b_get (ci := 0) (C := RX0) (T := TX0) (Nf := 11) (v := .int (z0.1 0)) hx hb hts in_X1_firstClash_X0 hown hK hH 1 (by decide) rfl rfl 0 (by decide) (hts (.fieldLink RX1 25 "StationLine$Bench" "size" "I") (List.mem_of_getElem? (i := 2) rfl)) rfl dX1_firstClash_7 ?_
      have i64 := IvC_s0 hJ.1
      refine lv_icmp_ge (tgt := 29) hx hb dX1_firstClash_10 (by decide) (fun c65 => ?_) (fun c65 => ?_)
      · skip
        refine lv_iconst (v := (-1)) hx hb dX1_firstClash_29 (by decide) ?_
        exact hret _ z0 H locs _ _ ⟨hJ, (iv_w (iv_lit (n := (-1)) (-1) (by decide)) (by decide) (by decide))⟩ hH dX1_firstClash_30
      · skip
        have k67a : iv 0 9 x1_2 := iv_ltl (iv_nLe c65) h1_2 i64 (by decide)
        have k67b : iv 1 10 (z0.1 0) := iv_ltr (iv_nLe c65) h1_2 i64 (by decide)
        refine lv_aload_n hx hb dX1_firstClash_13 rfl (lv_at hl 0 rfl) ?_
        refine lv_iload_n hx hb dX1_firstClash_14 rfl (lv_at hl 1 rfl) ?_
        refine b_calli (As := [.int x1_2]) (rest := []) ⟨hx, hb, hml, hown, hts⟩ 13 1 (g_X1_causeOf_13 l D cy q hH.2.1 z0 hJ.1 x1_2 k67a) (cwV 1 hts gX1_firstClash_X1_causeOf rfl rfl rfl (by decide +kernel) ⟨Nat.le_of_ble_eq_true rfl, Nat.le_of_ble_eq_true rfl⟩) hK hZ hH (by decide) rfl rfl rfl hl.1 rfl (Nat.le_of_ble_eq_true rfl) ⟨Nat.zero_le _, Nat.zero_le _⟩ dX1_firstClash_15 (fun w68 z68 H locs hp hH => ?_)
        rw [Ag_0 hp.1.2] at hH
        have i68 := hp.2
        refine lv_if_eq (tgt := 23) hx hb dX1_firstClash_18 (by decide) (fun c69 => ?_) (fun c69 => ?_)
        · skip
          have k70a : iv 0 0 w68 := iv_eql (iv_Eq c69) i68 (iv_lit (n := 0) 0 (by decide)) (by decide) (by decide)
          have j71 : iv 1 10 (x1_2 + 1) := iv_add k67a (iv_lit (n := 1) 1 (by decide)) (by decide) (by decide) (by decide) (by decide)
          have e71 : (x1_2 + 1).toInt = x1_2.toInt + 1 := (iv_addE k67a (iv_lit (n := 1) 1 (by decide)) (by decide) (by decide)).trans rfl
          refine lv_iinc (v := (x1_2 + 1)) (lv' := [(1, .int (x1_2 + 1)), (0, .ref (q 13))]) hx hb dX1_firstClash_23 hl (k := 1) rfl rfl (by decide) rfl (fun ls hl => ?_)
          refine lv_goto (tgt := 2) hx hb dX1_firstClash_26 (by decide) ?_
          exact ih2 _ (ms_up e71 j71.2 hn2) (x1_2 + 1)  H locs ls (iv_w j71 (by decide) (by decide))  hH (lv_sub hl [1, 0] rfl) rfl
        · skip
          have k72a : iv 1 6 w68 := iv_neLo (iv_nEq c69) i68 (by decide) (by decide)
          refine lv_iload_n hx hb dX1_firstClash_21 rfl (lv_at hl 1 rfl) ?_
          exact hret _ z0 H locs _ _ ⟨hJ, (iv_w k67a (by decide) (by decide))⟩ hH dX1_firstClash_22
  refine lv_iconst (v := 0) hx hb dX1_firstClash_0 (by decide) ?_
  refine lv_istore_n (lv' := [(1, .int 0), (0, .ref (q 13))]) hx hb dX1_firstClash_1 rfl hl (by decide) rfl (fun ls hl => ?_)
  exact HL2 _ 0  H locs ls (iv_w (iv_lit (n := 0) 0 (by decide)) (by decide) (by decide))  hH (lv_sub hl [1, 0] rfl) rfl
set_option maxHeartbeats 4000000 in
set_option maxRecDepth 100000 in
theorem g_X1_setAt_55 (l : Launch) (D : va_G) (cy : Nat → ClassId) (q : Nat → Nat) (hq : bJ 66 q) (z0 : zS) (hI : IvC z0) (p0 : Int32) : bCi l yX1_setAt wsX1_setAt ({ frames := 0, cells := 0, slots := 0, locals := 0 }) D cy 66 (enC cy) q z0 [.ref (q 55), .int p0] (fun v z => jJ IvC 0 0 0 z0 z ∧ iv 0 1023 v) := by
  refine hM_i cX1_setAt (by decide) rfl (own := RX1) rfl hq (Nat.le_of_ble_eq_true rfl) ?_
  intro p e s m args below meth c Q ls H locs hx hb hml hown hts hK hZ hH hl hret
  have hl : lv_has ls 4 [(0, .ref (q 55)), (1, .int p0)] := hl
  have hJ : jJ IvC 0 0 0 z0 z0 := jJ_rf _ _ _ hI
  have HL4 : ∀ (n : Nat) (x2_4 : Int32) (x3_4 : Int32) (H : Heap) (locs : List Loc) (ls : Array Slot), iv 0 1023 x2_4 → iv 0 10 x3_4 → bH D 66 (enC cy) q z0 s.heap H locs → lv_has ls 4 [(0, .ref (q 55)), (1, .int p0), (2, .int x2_4), (3, .int x3_4)] → (10 - x3_4.toInt).toNat = n → W p l e ({ frames := 0, cells := 0, slots := 0, locals := 0 }) s m args below meth c H locs 0 0 Q (F0 m 4 ls []) := by
    intro n4
    induction n4 using Nat.strongRecOn with
    | ind n4 ih4 =>
      intro x2_4 x3_4 H locs ls h2_4 h3_4 hH hl hn4
      have HJ31 : ∀ (x2_31 : Int32) (H : Heap) (locs : List Loc) (ls : Array Slot), iv 0 1023 x2_31 → iv 0 9 x3_4 → iv 1 10 (z0.1 0) → bH D 66 (enC cy) q z0 s.heap H locs → lv_has ls 4 [(0, .ref (q 55)), (1, .int p0), (2, .int x2_31), (3, .int x3_4)] → W p l e ({ frames := 0, cells := 0, slots := 0, locals := 0 }) s m args below meth c H locs 0 0 Q (F0 m 31 ls []) := by
        intro x2_31 H locs ls h2_31 h3_31 gh0_31 hH hl
        have j78 : iv 1 10 (x3_4 + 1) := iv_add h3_31 (iv_lit (n := 1) 1 (by decide)) (by decide) (by decide) (by decide) (by decide)
        have e78 : (x3_4 + 1).toInt = x3_4.toInt + 1 := (iv_addE h3_31 (iv_lit (n := 1) 1 (by decide)) (by decide) (by decide)).trans rfl
        refine lv_iinc (v := (x3_4 + 1)) (lv' := [(3, .int (x3_4 + 1)), (0, .ref (q 55)), (1, .int p0), (2, .int x2_31)]) hx hb dX1_setAt_31 hl (k := 3) rfl rfl (by decide) rfl (fun ls hl => ?_)
        refine lv_goto (tgt := 4) hx hb dX1_setAt_34 (by decide) ?_
        exact ih4 _ (ms_up e78 j78.2 hn4) x2_31 (x3_4 + 1)  H locs ls h2_31 (iv_w j78 (by decide) (by decide))  hH (lv_sub hl [1, 2, 3, 0] rfl) rfl
      refine lv_iload_n hx hb dX1_setAt_4 rfl (lv_at hl 3 rfl) ?_
      refine lv_aload_n hx hb dX1_setAt_5 rfl (lv_at hl 0 rfl) ?_
      refine b_get (ci := 1) (C := RX1) (T := TX1) (Nf := 2) (v := .ref (q 1)) hx hb hts in_X1_setAt_X1 hown hK hH 55 (by decide) rfl rfl 0 (by decide) (hts (.fieldLink RX1 15 "StationLine$Putting" "bench" "LStationLine$Bench;") (List.mem_of_getElem? (i := 1) rfl)) rfl dX1_setAt_6 ?_
      refine b_get (ci := 0) (C := RX0) (T := TX0) (Nf := 11) (v := .int (z0.1 0)) hx hb hts in_X1_setAt_X0 hown hK hH 1 (by decide) rfl rfl 0 (by decide) (hts (.fieldLink RX1 25 "StationLine$Bench" "size" "I") (List.mem_of_getElem? (i := 2) rfl)) rfl dX1_setAt_9 ?_
      have i79 := IvC_s0 hJ.1
      refine lv_icmp_ge (tgt := 37) hx hb dX1_setAt_12 (by decide) (fun c80 => ?_) (fun c80 => ?_)
      · skip
        refine lv_iload_n hx hb dX1_setAt_37 rfl (lv_at hl 2 rfl) ?_
        exact hret _ z0 H locs _ _ ⟨hJ, h2_4⟩ hH dX1_setAt_38
      · skip
        have k82a : iv 0 9 x3_4 := iv_ltl (iv_nLe c80) h3_4 i79 (by decide)
        have k82b : iv 1 10 (z0.1 0) := iv_ltr (iv_nLe c80) h3_4 i79 (by decide)
        refine lv_aload_n hx hb dX1_setAt_15 rfl (lv_at hl 0 rfl) ?_
        refine b_get (ci := 1) (C := RX1) (T := TX1) (Nf := 2) (v := .ref (q 56)) hx hb hts in_X1_setAt_X1 hown hK hH 55 (by decide) rfl rfl 1 (by decide) (hts (.fieldLink RX1 9 "StationLine$Putting" "row" "[I") (List.mem_of_getElem? (i := 3) rfl)) rfl dX1_setAt_16 ?_
        refine lv_iload_n hx hb dX1_setAt_19 rfl (lv_at hl 3 rfl) ?_
        refine b_iald (v := z0.2.1 56 (x3_4 : Int32).toNatClampNeg) hx hb hK hH 56 (by decide) rfl (iv_in k82a (by decide) (by decide)) rfl dX1_setAt_20 ?_
        have i83 : iv 0 10 (z0.2.1 56 (x3_4 : Int32).toNatClampNeg) := IvC_a56 hJ.1 _ (b_inlt (iv_in k82a (by decide) (by decide)))
        refine lv_iload_n hx hb dX1_setAt_21 rfl (lv_at hl 1 rfl) ?_
        refine lv_icmp_ne (tgt := 31) hx hb dX1_setAt_22 (by decide) (fun c84 => ?_) (fun c84 => ?_)
        · skip
          exact HJ31 x2_4  H locs ls h2_4 k82a k82b  hH (lv_sub hl [0, 1, 2, 3] rfl)
        · skip
          have k86b : iv 0 10 p0 := iv_eql ((iv_Eq c84)).symm (iv_all p0) i83 (by decide) (by decide)
          refine lv_iload_n hx hb dX1_setAt_25 rfl (lv_at hl 2 rfl) ?_
          refine lv_iconst (v := 1) hx hb dX1_setAt_26 (by decide) ?_
          refine lv_iload_n hx hb dX1_setAt_27 rfl (lv_at hl 3 rfl) ?_
          refine lv_ishl hx hb dX1_setAt_28 ?_
          refine h_i (a := 1) (b := 512) (iv_bit k82a (by decide) (by decide)) (fun w87 i87 => ?_)
          refine lv_ior hx hb dX1_setAt_29 ?_
          refine h_i (a := 0) (b := 1023) (iv_or 10 (b := 1023) (d := 512) (iv_w h2_4 (by decide) (by decide)) (iv_w i87 (by decide) (by decide)) (by decide) (by decide) (by decide) (by decide)) (fun w88 i88 => ?_)
          refine lv_istore_n (lv' := [(2, .int w88), (0, .ref (q 55)), (1, .int p0), (3, .int x3_4)]) hx hb dX1_setAt_30 rfl hl (by decide) rfl (fun ls hl => ?_)
          exact HJ31 w88  H locs ls i88 k82a k82b  hH (lv_sub hl [1, 2, 0, 3] rfl)
  refine lv_iconst (v := 0) hx hb dX1_setAt_0 (by decide) ?_
  refine lv_istore_n (lv' := [(2, .int 0), (0, .ref (q 55)), (1, .int p0)]) hx hb dX1_setAt_1 rfl hl (by decide) rfl (fun ls hl => ?_)
  refine lv_iconst (v := 0) hx hb dX1_setAt_2 (by decide) ?_
  refine lv_istore_n (lv' := [(3, .int 0), (2, .int 0), (0, .ref (q 55)), (1, .int p0)]) hx hb dX1_setAt_3 rfl hl (by decide) rfl (fun ls hl => ?_)
  exact HL4 _ 0 0  H locs ls (iv_w (iv_lit (n := 0) 0 (by decide)) (by decide) (by decide)) (iv_w (iv_lit (n := 0) 0 (by decide)) (by decide) (by decide))  hH (lv_sub hl [2, 3, 1, 0] rfl) rfl
set_option maxHeartbeats 4000000 in
set_option maxRecDepth 100000 in
theorem g_X1_setUpTo_55 (l : Launch) (D : va_G) (cy : Nat → ClassId) (q : Nat → Nat) (hq : bJ 66 q) (z0 : zS) (hI : IvC z0) (p0 : Int32) : bCi l yX1_setUpTo wsX1_setUpTo ({ frames := 0, cells := 0, slots := 0, locals := 0 }) D cy 66 (enC cy) q z0 [.ref (q 55), .int p0] (fun v z => jJ IvC 0 0 0 z0 z ∧ iv 0 1023 v) := by
  refine hM_i cX1_setUpTo (by decide) rfl (own := RX1) rfl hq (Nat.le_of_ble_eq_true rfl) ?_
  intro p e s m args below meth c Q ls H locs hx hb hml hown hts hK hZ hH hl hret
  have hl : lv_has ls 4 [(0, .ref (q 55)), (1, .int p0)] := hl
  have hJ : jJ IvC 0 0 0 z0 z0 := jJ_rf _ _ _ hI
  have HL4 : ∀ (n : Nat) (x2_4 : Int32) (x3_4 : Int32) (H : Heap) (locs : List Loc) (ls : Array Slot), iv 0 1023 x2_4 → iv 0 10 x3_4 → bH D 66 (enC cy) q z0 s.heap H locs → lv_has ls 4 [(0, .ref (q 55)), (1, .int p0), (2, .int x2_4), (3, .int x3_4)] → (10 - x3_4.toInt).toNat = n → W p l e ({ frames := 0, cells := 0, slots := 0, locals := 0 }) s m args below meth c H locs 0 0 Q (F0 m 4 ls []) := by
    intro n4
    induction n4 using Nat.strongRecOn with
    | ind n4 ih4 =>
      intro x2_4 x3_4 H locs ls h2_4 h3_4 hH hl hn4
      have HJ40 : ∀ (x2_40 : Int32) (H : Heap) (locs : List Loc) (ls : Array Slot), iv 0 1023 x2_40 → iv 0 9 x3_4 → iv 1 10 (z0.1 0) → bH D 66 (enC cy) q z0 s.heap H locs → lv_has ls 4 [(0, .ref (q 55)), (1, .int p0), (2, .int x2_40), (3, .int x3_4)] → W p l e ({ frames := 0, cells := 0, slots := 0, locals := 0 }) s m args below meth c H locs 0 0 Q (F0 m 40 ls []) := by
        intro x2_40 H locs ls h2_40 h3_40 gh0_40 hH hl
        have j106 : iv 1 10 (x3_4 + 1) := iv_add h3_40 (iv_lit (n := 1) 1 (by decide)) (by decide) (by decide) (by decide) (by decide)
        have e106 : (x3_4 + 1).toInt = x3_4.toInt + 1 := (iv_addE h3_40 (iv_lit (n := 1) 1 (by decide)) (by decide) (by decide)).trans rfl
        refine lv_iinc (v := (x3_4 + 1)) (lv' := [(3, .int (x3_4 + 1)), (0, .ref (q 55)), (1, .int p0), (2, .int x2_40)]) hx hb dX1_setUpTo_40 hl (k := 3) rfl rfl (by decide) rfl (fun ls hl => ?_)
        refine lv_goto (tgt := 4) hx hb dX1_setUpTo_43 (by decide) ?_
        exact ih4 _ (ms_up e106 j106.2 hn4) x2_40 (x3_4 + 1)  H locs ls h2_40 (iv_w j106 (by decide) (by decide))  hH (lv_sub hl [1, 2, 3, 0] rfl) rfl
      refine lv_iload_n hx hb dX1_setUpTo_4 rfl (lv_at hl 3 rfl) ?_
      refine lv_aload_n hx hb dX1_setUpTo_5 rfl (lv_at hl 0 rfl) ?_
      refine b_get (ci := 1) (C := RX1) (T := TX1) (Nf := 2) (v := .ref (q 1)) hx hb hts in_X1_setUpTo_X1 hown hK hH 55 (by decide) rfl rfl 0 (by decide) (hts (.fieldLink RX1 15 "StationLine$Putting" "bench" "LStationLine$Bench;") (List.mem_of_getElem? (i := 1) rfl)) rfl dX1_setUpTo_6 ?_
      refine b_get (ci := 0) (C := RX0) (T := TX0) (Nf := 11) (v := .int (z0.1 0)) hx hb hts in_X1_setUpTo_X0 hown hK hH 1 (by decide) rfl rfl 0 (by decide) (hts (.fieldLink RX1 25 "StationLine$Bench" "size" "I") (List.mem_of_getElem? (i := 2) rfl)) rfl dX1_setUpTo_9 ?_
      have i107 := IvC_s0 hJ.1
      refine lv_icmp_ge (tgt := 46) hx hb dX1_setUpTo_12 (by decide) (fun c108 => ?_) (fun c108 => ?_)
      · skip
        refine lv_iload_n hx hb dX1_setUpTo_46 rfl (lv_at hl 2 rfl) ?_
        exact hret _ z0 H locs _ _ ⟨hJ, h2_4⟩ hH dX1_setUpTo_47
      · skip
        have k110a : iv 0 9 x3_4 := iv_ltl (iv_nLe c108) h3_4 i107 (by decide)
        have k110b : iv 1 10 (z0.1 0) := iv_ltr (iv_nLe c108) h3_4 i107 (by decide)
        refine lv_aload_n hx hb dX1_setUpTo_15 rfl (lv_at hl 0 rfl) ?_
        refine b_get (ci := 1) (C := RX1) (T := TX1) (Nf := 2) (v := .ref (q 56)) hx hb hts in_X1_setUpTo_X1 hown hK hH 55 (by decide) rfl rfl 1 (by decide) (hts (.fieldLink RX1 9 "StationLine$Putting" "row" "[I") (List.mem_of_getElem? (i := 3) rfl)) rfl dX1_setUpTo_16 ?_
        refine lv_iload_n hx hb dX1_setUpTo_19 rfl (lv_at hl 3 rfl) ?_
        refine b_iald (v := z0.2.1 56 (x3_4 : Int32).toNatClampNeg) hx hb hK hH 56 (by decide) rfl (iv_in k110a (by decide) (by decide)) rfl dX1_setUpTo_20 ?_
        have i111 : iv 0 10 (z0.2.1 56 (x3_4 : Int32).toNatClampNeg) := IvC_a56 hJ.1 _ (b_inlt (iv_in k110a (by decide) (by decide)))
        refine lv_if_le (tgt := 40) hx hb dX1_setUpTo_21 (by decide) (fun c112 => ?_) (fun c112 => ?_)
        · skip
          have k113a : iv 0 0 (z0.2.1 56 (x3_4 : Int32).toNatClampNeg) := iv_lel (iv_Le c112) i111 (iv_lit (n := 0) 0 (by decide))
          exact HJ40 x2_4  H locs ls h2_4 k110a k110b  hH (lv_sub hl [0, 1, 2, 3] rfl)
        · skip
          have k114b : iv 1 10 (z0.2.1 56 (x3_4 : Int32).toNatClampNeg) := iv_ltr (iv_nLe c112) (iv_lit (n := 0) 0 (by decide)) i111 (by decide)
          refine lv_aload_n hx hb dX1_setUpTo_24 rfl (lv_at hl 0 rfl) ?_
          refine b_get (ci := 1) (C := RX1) (T := TX1) (Nf := 2) (v := .ref (q 56)) hx hb hts in_X1_setUpTo_X1 hown hK hH 55 (by decide) rfl rfl 1 (by decide) (hts (.fieldLink RX1 9 "StationLine$Putting" "row" "[I") (List.mem_of_getElem? (i := 3) rfl)) rfl dX1_setUpTo_25 ?_
          refine lv_iload_n hx hb dX1_setUpTo_28 rfl (lv_at hl 3 rfl) ?_
          refine b_iald (v := z0.2.1 56 (x3_4 : Int32).toNatClampNeg) hx hb hK hH 56 (by decide) rfl (iv_in k110a (by decide) (by decide)) rfl dX1_setUpTo_29 ?_
          have i115 : iv 0 10 (z0.2.1 56 (x3_4 : Int32).toNatClampNeg) := IvC_a56 hJ.1 _ (b_inlt (iv_in k110a (by decide) (by decide)))
          refine lv_iload_n hx hb dX1_setUpTo_30 rfl (lv_at hl 1 rfl) ?_
          refine lv_icmp_gt (tgt := 40) hx hb dX1_setUpTo_31 (by decide) (fun c116 => ?_) (fun c116 => ?_)
          · skip
            have k117a : iv (-2147483648) 9 p0 := iv_ltl (iv_Lt c116) (iv_all p0) i115 (by decide)
            exact HJ40 x2_4  H locs ls h2_4 k110a k110b  hH (lv_sub hl [0, 1, 2, 3] rfl)
          · skip
            have k118b : iv 0 2147483647 p0 := iv_ler (iv_nLt c116) i115 (iv_all p0)
            refine lv_iload_n hx hb dX1_setUpTo_34 rfl (lv_at hl 2 rfl) ?_
            refine lv_iconst (v := 1) hx hb dX1_setUpTo_35 (by decide) ?_
            refine lv_iload_n hx hb dX1_setUpTo_36 rfl (lv_at hl 3 rfl) ?_
            refine lv_ishl hx hb dX1_setUpTo_37 ?_
            refine h_i (a := 1) (b := 512) (iv_bit k110a (by decide) (by decide)) (fun w119 i119 => ?_)
            refine lv_ior hx hb dX1_setUpTo_38 ?_
            refine h_i (a := 0) (b := 1023) (iv_or 10 (b := 1023) (d := 512) (iv_w h2_4 (by decide) (by decide)) (iv_w i119 (by decide) (by decide)) (by decide) (by decide) (by decide) (by decide)) (fun w120 i120 => ?_)
            refine lv_istore_n (lv' := [(2, .int w120), (0, .ref (q 55)), (1, .int p0), (3, .int x3_4)]) hx hb dX1_setUpTo_39 rfl hl (by decide) rfl (fun ls hl => ?_)
            exact HJ40 w120  H locs ls i120 k110a k110b  hH (lv_sub hl [1, 2, 0, 3] rfl)
  refine lv_iconst (v := 0) hx hb dX1_setUpTo_0 (by decide) ?_
  refine lv_istore_n (lv' := [(2, .int 0), (0, .ref (q 55)), (1, .int p0)]) hx hb dX1_setUpTo_1 rfl hl (by decide) rfl (fun ls hl => ?_)
  refine lv_iconst (v := 0) hx hb dX1_setUpTo_2 (by decide) ?_
  refine lv_istore_n (lv' := [(3, .int 0), (2, .int 0), (0, .ref (q 55)), (1, .int p0)]) hx hb dX1_setUpTo_3 rfl hl (by decide) rfl (fun ls hl => ?_)
  exact HL4 _ 0 0  H locs ls (iv_w (iv_lit (n := 0) 0 (by decide)) (by decide) (by decide)) (iv_w (iv_lit (n := 0) 0 (by decide)) (by decide) (by decide))  hH (lv_sub hl [2, 3, 1, 0] rfl) rfl
set_option maxHeartbeats 4000000 in
set_option maxRecDepth 100000 in
theorem g_X1_greatest_55 (l : Launch) (D : va_G) (cy : Nat → ClassId) (q : Nat → Nat) (hq : bJ 66 q) (z0 : zS) (hI : IvC z0)  : bCi l yX1_greatest wsX1_greatest ({ frames := 1, cells := 0, slots := 0, locals := 28 }) D cy 66 (enC cy) q z0 [.ref (q 55)] (fun v z => jJ IvC 0 0 0 z0 z ∧ iv 0 10 v) := by
  refine hM_i cX1_greatest (by decide) rfl (own := RX1) rfl hq (Nat.le_of_ble_eq_true rfl) ?_
  intro p e s m args below meth c Q ls H locs hx hb hml hown hts hK hZ hH hl hret
  have hl : lv_has ls 3 [(0, .ref (q 55))] := hl
  have hJ : jJ IvC 0 0 0 z0 z0 := jJ_rf _ _ _ hI
  have HL4 : ∀ (n : Nat) (x1_4 : Int32) (x2_4 : Int32) (H : Heap) (locs : List Loc) (ls : Array Slot), iv 0 10 x1_4 → iv 0 10 x2_4 → bH D 66 (enC cy) q z0 s.heap H locs → lv_has ls 3 [(0, .ref (q 55)), (1, .int x1_4), (2, .int x2_4)] → (10 - x2_4.toInt).toNat = n → W p l e ({ frames := 1, cells := 0, slots := 0, locals := 28 }) s m args below meth c H locs 0 0 Q (F0 m 4 ls []) := by
    intro n4
    induction n4 using Nat.strongRecOn with
    | ind n4 ih4 =>
      intro x1_4 x2_4 H locs ls h1_4 h2_4 hH hl hn4
      refine lv_iload_n hx hb dX1_greatest_4 rfl (lv_at hl 2 rfl) ?_
      refine lv_aload_n hx hb dX1_greatest_5 rfl (lv_at hl 0 rfl) ?_
      refine b_get (ci := 1) (C := RX1) (T := TX1) (Nf := 2) (v := .ref (q 1)) hx hb hts in_X1_greatest_X1 hown hK hH 55 (by decide) rfl rfl 0 (by decide) (hts (.fieldLink RX1 15 "StationLine$Putting" "bench" "LStationLine$Bench;") (List.mem_of_getElem? (i := 1) rfl)) rfl dX1_greatest_6 ?_
      refine b_get (ci := 0) (C := RX0) (T := TX0) (Nf := 11) (v := .int (z0.1 0)) hx hb hts in_X1_greatest_X0 hown hK hH 1 (by decide) rfl rfl 0 (by decide) (hts (.fieldLink RX1 25 "StationLine$Bench" "size" "I") (List.mem_of_getElem? (i := 2) rfl)) rfl dX1_greatest_9 ?_
      have i50 := IvC_s0 hJ.1
      refine lv_icmp_ge (tgt := 32) hx hb dX1_greatest_12 (by decide) (fun c51 => ?_) (fun c51 => ?_)
      · skip
        refine lv_iload_n hx hb dX1_greatest_32 rfl (lv_at hl 1 rfl) ?_
        exact hret _ z0 H locs _ _ ⟨hJ, h1_4⟩ hH dX1_greatest_33
      · skip
        have k53a : iv 0 9 x2_4 := iv_ltl (iv_nLe c51) h2_4 i50 (by decide)
        have k53b : iv 1 10 (z0.1 0) := iv_ltr (iv_nLe c51) h2_4 i50 (by decide)
        refine lv_iload_n hx hb dX1_greatest_15 rfl (lv_at hl 1 rfl) ?_
        refine lv_aload_n hx hb dX1_greatest_16 rfl (lv_at hl 0 rfl) ?_
        refine b_get (ci := 1) (C := RX1) (T := TX1) (Nf := 2) (v := .ref (q 56)) hx hb hts in_X1_greatest_X1 hown hK hH 55 (by decide) rfl rfl 1 (by decide) (hts (.fieldLink RX1 9 "StationLine$Putting" "row" "[I") (List.mem_of_getElem? (i := 3) rfl)) rfl dX1_greatest_17 ?_
        refine lv_iload_n hx hb dX1_greatest_20 rfl (lv_at hl 2 rfl) ?_
        refine b_iald (v := z0.2.1 56 (x2_4 : Int32).toNatClampNeg) hx hb hK hH 56 (by decide) rfl (iv_in k53a (by decide) (by decide)) rfl dX1_greatest_21 ?_
        have i54 : iv 0 10 (z0.2.1 56 (x2_4 : Int32).toNatClampNeg) := IvC_a56 hJ.1 _ (b_inlt (iv_in k53a (by decide) (by decide)))
        refine va_mmax hx hb (by rw [hml]; exact hl.1.symm) hown (hts (.methodLink RX1 31 Lib.Math.max.name) (List.mem_of_getElem? (i := 4) rfl)) (hts (.static Lib.Math.max.name) (List.mem_of_getElem? (i := 5) rfl)) (hts (.initialized "java/lang/Math") (List.mem_of_getElem? (i := 6) rfl)) (hts (.code Lib.Math.max.name Lib.Math.max.code 2 (some .int)) (List.mem_of_getElem? (i := 7) rfl)) (Nat.le_of_ble_eq_true rfl) (Nat.le_of_ble_eq_true rfl) (Nat.zero_le _) (Nat.zero_le _) dX1_greatest_22 ?_
        refine h_i (a := 0) (b := 10) (iv_max h1_4 i54 (by decide) (by decide) (by decide)) (fun w55 i55 => ?_)
        refine lv_istore_n (lv' := [(1, .int w55), (0, .ref (q 55)), (2, .int x2_4)]) hx hb dX1_greatest_25 rfl hl (by decide) rfl (fun ls hl => ?_)
        have j56 : iv 1 10 (x2_4 + 1) := iv_add k53a (iv_lit (n := 1) 1 (by decide)) (by decide) (by decide) (by decide) (by decide)
        have e56 : (x2_4 + 1).toInt = x2_4.toInt + 1 := (iv_addE k53a (iv_lit (n := 1) 1 (by decide)) (by decide) (by decide)).trans rfl
        refine lv_iinc (v := (x2_4 + 1)) (lv' := [(2, .int (x2_4 + 1)), (1, .int w55), (0, .ref (q 55))]) hx hb dX1_greatest_26 hl (k := 2) rfl rfl (by decide) rfl (fun ls hl => ?_)
        refine lv_goto (tgt := 4) hx hb dX1_greatest_29 (by decide) ?_
        exact ih4 _ (ms_up e56 j56.2 hn4) w55 (x2_4 + 1)  H locs ls i55 (iv_w j56 (by decide) (by decide))  hH (lv_sub hl [2, 1, 0] rfl) rfl
  refine lv_iconst (v := 0) hx hb dX1_greatest_0 (by decide) ?_
  refine lv_istore_n (lv' := [(1, .int 0), (0, .ref (q 55))]) hx hb dX1_greatest_1 rfl hl (by decide) rfl (fun ls hl => ?_)
  refine lv_iconst (v := 0) hx hb dX1_greatest_2 (by decide) ?_
  refine lv_istore_n (lv' := [(2, .int 0), (1, .int 0), (0, .ref (q 55))]) hx hb dX1_greatest_3 rfl hl (by decide) rfl (fun ls hl => ?_)
  exact HL4 _ 0 0  H locs ls (iv_w (iv_lit (n := 0) 0 (by decide)) (by decide) (by decide)) (iv_w (iv_lit (n := 0) 0 (by decide)) (by decide) (by decide))  hH (lv_sub hl [2, 1, 0] rfl) rfl
set_option maxHeartbeats 4000000 in
set_option maxRecDepth 100000 in
theorem g_X1_causeOf_55 (l : Launch) (D : va_G) (cy : Nat → ClassId) (q : Nat → Nat) (hq : bJ 66 q) (z0 : zS) (hI : IvC z0) (p0 : Int32) (hp0 : iv 0 9 p0) : bCi l yX1_causeOf wsX1_causeOf ({ frames := 3, cells := 0, slots := 0, locals := 74 }) D cy 66 (enC cy) q z0 [.ref (q 55), .int p0] (fun v z => jJ IvC 0 0 0 z0 z ∧ iv 0 6 v) := by
  refine hM_i cX1_causeOf (by decide) rfl (own := RX1) rfl hq (Nat.le_of_ble_eq_true rfl) ?_
  intro p e s m args below meth c Q ls H locs hx hb hml hown hts hK hZ hH hl hret
  have hl : lv_has ls 4 [(0, .ref (q 55)), (1, .int p0)] := hl
  have hJ : jJ IvC 0 0 0 z0 z0 := jJ_rf _ _ _ hI
  have HJ100 : ∀ (x2_100 : Int32) (H : Heap) (locs : List Loc) (ls : Array Slot), iv 1 10 x2_100 → bH D 66 (enC cy) q z0 s.heap H locs → lv_has ls 4 [(0, .ref (q 55)), (1, .int p0), (2, .int x2_100)] → W p l e ({ frames := 3, cells := 0, slots := 0, locals := 74 }) s m args below meth c H locs 0 0 Q (F0 m 100 ls []) := by
    intro x2_100 H locs ls h2_100 hH hl
    refine lv_aload_n hx hb dX1_causeOf_100 rfl (lv_at hl 0 rfl) ?_
    refine b_get (ci := 1) (C := RX1) (T := TX1) (Nf := 2) (v := .ref (q 1)) hx hb hts in_X1_causeOf_X1 hown hK hH 55 (by decide) rfl rfl 0 (by decide) (hts (.fieldLink RX1 15 "StationLine$Putting" "bench" "LStationLine$Bench;") (List.mem_of_getElem? (i := 2) rfl)) rfl dX1_causeOf_101 ?_
    refine lv_iload_n hx hb dX1_causeOf_104 rfl (lv_at hl 1 rfl) ?_
    refine lv_aload_n hx hb dX1_causeOf_105 rfl (lv_at hl 0 rfl) ?_
    refine lv_iload_n hx hb dX1_causeOf_106 rfl (lv_at hl 2 rfl) ?_
    refine b_calli (As := [.int x2_100]) (rest := [.int p0, .ref (q 1)]) ⟨hx, hb, hml, hown, hts⟩ 55 1 (g_X1_setUpTo_55 l D cy q hH.2.1 z0 hJ.1 x2_100) (cwV 1 hts gX1_causeOf_X1_setUpTo rfl rfl rfl (by decide +kernel) ⟨Nat.le_of_ble_eq_true rfl, Nat.le_of_ble_eq_true rfl⟩) hK hZ hH (by decide) rfl rfl rfl hl.1 rfl (Nat.le_of_ble_eq_true rfl) ⟨Nat.zero_le _, Nat.zero_le _⟩ dX1_causeOf_107 (fun w31 z31 H locs hp hH => ?_)
    rw [Ag_0 hp.1.2] at hH
    have i31 := hp.2
    refine b_calli (As := [.int p0, .int w31]) (rest := []) ⟨hx, hb, hml, hown, hts⟩ 1 0 (g_X0_isOpen_1 l D cy q hH.2.1 z0 hJ.1 p0 hp0 w31) (cwV 2 hts gX1_causeOf_X0_isOpen rfl rfl rfl (by decide +kernel) ⟨Nat.le_of_ble_eq_true rfl, Nat.le_of_ble_eq_true rfl⟩) hK hZ hH (by decide) rfl rfl rfl hl.1 rfl (Nat.le_of_ble_eq_true rfl) ⟨Nat.zero_le _, Nat.zero_le _⟩ dX1_causeOf_110 (fun w32 z32 H locs hp hH => ?_)
    rw [Ag_0 hp.1.2] at hH
    have i32 := hp.2
    refine lv_if_eq (tgt := 120) hx hb dX1_causeOf_113 (by decide) (fun c33 => ?_) (fun c33 => ?_)
    · skip
      have k34a : iv 0 0 w32 := iv_eql (iv_Eq c33) i32 (iv_lit (n := 0) 0 (by decide)) (by decide) (by decide)
      refine lv_bipush (v := 6) hx hb dX1_causeOf_120 (by decide) ?_
      exact hret _ z0 H locs _ _ ⟨hJ, (iv_w (iv_lit (n := 6) 6 (by decide)) (by decide) (by decide))⟩ hH dX1_causeOf_122
    · skip
      have k35a : iv 1 1 w32 := iv_neLo (iv_nEq c33) i32 (by decide) (by decide)
      refine lv_iconst (v := 0) hx hb dX1_causeOf_116 (by decide) ?_
      refine lv_goto (tgt := 122) hx hb dX1_causeOf_117 (by decide) ?_
      exact hret _ z0 H locs _ _ ⟨hJ, (iv_w (iv_lit (n := 0) 0 (by decide)) (by decide) (by decide))⟩ hH dX1_causeOf_122
  refine lv_aload_n hx hb dX1_causeOf_0 rfl (lv_at hl 0 rfl) ?_
  refine b_get (ci := 1) (C := RX1) (T := TX1) (Nf := 2) (v := .ref (q 56)) hx hb hts in_X1_causeOf_X1 hown hK hH 55 (by decide) rfl rfl 1 (by decide) (hts (.fieldLink RX1 9 "StationLine$Putting" "row" "[I") (List.mem_of_getElem? (i := 1) rfl)) rfl dX1_causeOf_1 ?_
  refine lv_iload_n hx hb dX1_causeOf_4 rfl (lv_at hl 1 rfl) ?_
  refine b_iald (v := z0.2.1 56 (p0 : Int32).toNatClampNeg) hx hb hK hH 56 (by decide) rfl (iv_in hp0 (by decide) (by decide)) rfl dX1_causeOf_5 ?_
  have i36 : iv 0 10 (z0.2.1 56 (p0 : Int32).toNatClampNeg) := IvC_a56 hJ.1 _ (b_inlt (iv_in hp0 (by decide) (by decide)))
  refine lv_istore_n (lv' := [(2, .int (z0.2.1 56 (p0 : Int32).toNatClampNeg)), (0, .ref (q 55)), (1, .int p0)]) hx hb dX1_causeOf_6 rfl hl (by decide) rfl (fun ls hl => ?_)
  refine lv_iload_n hx hb dX1_causeOf_7 rfl (lv_at hl 0 rfl) ?_
  refine lv_if_ne (tgt := 13) hx hb dX1_causeOf_8 (by decide) (fun c37 => ?_) (fun c37 => ?_)
  · skip
    have k38a : iv 1 10 (z0.2.1 56 (p0 : Int32).toNatClampNeg) := iv_neLo (iv_nEq c37) i36 (by decide) (by decide)
    refine lv_aload_n hx hb dX1_causeOf_13 rfl (lv_at hl 1 rfl) ?_
    refine lv_iload_n hx hb dX1_causeOf_14 rfl (lv_at hl 0 rfl) ?_
    refine b_calli (As := [.int (z0.2.1 56 (p0 : Int32).toNatClampNeg)]) (rest := []) ⟨hx, hb, hml, hown, hts⟩ 55 1 (g_X1_setAt_55 l D cy q hH.2.1 z0 hJ.1 (z0.2.1 56 (p0 : Int32).toNatClampNeg)) (cwV 1 hts gX1_causeOf_X1_setAt rfl rfl rfl (by decide +kernel) ⟨Nat.le_of_ble_eq_true rfl, Nat.le_of_ble_eq_true rfl⟩) hK hZ hH (by decide) rfl rfl rfl hl.1 rfl (Nat.le_of_ble_eq_true rfl) ⟨Nat.zero_le _, Nat.zero_le _⟩ dX1_causeOf_15 (fun w39 z39 H locs hp hH => ?_)
    rw [Ag_0 hp.1.2] at hH
    have i39 := hp.2
    refine lv_istore_n (lv' := [(3, .int w39), (2, .int (z0.2.1 56 (p0 : Int32).toNatClampNeg)), (0, .ref (q 55)), (1, .int p0)]) hx hb dX1_causeOf_18 rfl hl (by decide) rfl (fun ls hl => ?_)
    refine lv_aload_n hx hb dX1_causeOf_19 rfl (lv_at hl 2 rfl) ?_
    refine b_get (ci := 1) (C := RX1) (T := TX1) (Nf := 2) (v := .ref (q 1)) hx hb hts in_X1_causeOf_X1 hown hK hH 55 (by decide) rfl rfl 0 (by decide) (hts (.fieldLink RX1 15 "StationLine$Putting" "bench" "LStationLine$Bench;") (List.mem_of_getElem? (i := 2) rfl)) rfl dX1_causeOf_20 ?_
    refine lv_iload_n hx hb dX1_causeOf_23 rfl (lv_at hl 0 rfl) ?_
    refine b_calli (As := [.int w39]) (rest := []) ⟨hx, hb, hml, hown, hts⟩ 1 0 (g_X0_loadOf_1 l D cy q hH.2.1 z0 hJ.1 w39) (cwV 1 hts gX1_causeOf_X0_loadOf rfl rfl rfl (by decide +kernel) ⟨Nat.le_of_ble_eq_true rfl, Nat.le_of_ble_eq_true rfl⟩) hK hZ hH (by decide) rfl rfl rfl hl.1 rfl (Nat.le_of_ble_eq_true rfl) ⟨Nat.zero_le _, Nat.zero_le _⟩ dX1_causeOf_24 (fun w40 z40 H locs hp hH => ?_)
    rw [Ag_0 hp.1.2] at hH
    refine lv_aload_n hx hb dX1_causeOf_27 rfl (lv_at hl 2 rfl) ?_
    refine b_get (ci := 1) (C := RX1) (T := TX1) (Nf := 2) (v := .ref (q 1)) hx hb hts in_X1_causeOf_X1 hown hK hH 55 (by decide) rfl rfl 0 (by decide) (hts (.fieldLink RX1 15 "StationLine$Putting" "bench" "LStationLine$Bench;") (List.mem_of_getElem? (i := 2) rfl)) rfl dX1_causeOf_28 ?_
    refine b_calli (As := []) (rest := [.int w40]) ⟨hx, hb, hml, hown, hts⟩ 1 0 (g_X0_room_1 l D cy q hH.2.1 z0 hJ.1 ) (cwV 0 hts gX1_causeOf_X0_room rfl rfl rfl (by decide +kernel) ⟨Nat.le_of_ble_eq_true rfl, Nat.le_of_ble_eq_true rfl⟩) hK hZ hH (by decide) rfl rfl rfl hl.1 rfl (Nat.le_of_ble_eq_true rfl) ⟨Nat.zero_le _, Nat.zero_le _⟩ dX1_causeOf_31 (fun w41 z41 H locs hp hH => ?_)
    rw [Ag_0 hp.1.2] at hH
    refine lv_icmp_le (tgt := 39) hx hb dX1_causeOf_34 (by decide) (fun c42 => ?_) (fun c42 => ?_)
    · skip
      refine lv_aload_n hx hb dX1_causeOf_39 rfl (lv_at hl 2 rfl) ?_
      refine b_get (ci := 1) (C := RX1) (T := TX1) (Nf := 2) (v := .ref (q 1)) hx hb hts in_X1_causeOf_X1 hown hK hH 55 (by decide) rfl rfl 0 (by decide) (hts (.fieldLink RX1 15 "StationLine$Putting" "bench" "LStationLine$Bench;") (List.mem_of_getElem? (i := 2) rfl)) rfl dX1_causeOf_40 ?_
      refine b_get (ci := 0) (C := RX0) (T := TX0) (Nf := 11) (v := .ref (q 10)) hx hb hts in_X1_causeOf_X0 hown hK hH 1 (by decide) rfl rfl 8 (by decide) (hts (.fieldLink RX1 52 "StationLine$Bench" "together" "[I") (List.mem_of_getElem? (i := 3) rfl)) rfl dX1_causeOf_43 ?_
      refine lv_iload_n hx hb dX1_causeOf_46 rfl (lv_at hl 3 rfl) ?_
      refine b_iald (v := z0.2.1 10 (p0 : Int32).toNatClampNeg) hx hb hK hH 10 (by decide) rfl (iv_in hp0 (by decide) (by decide)) rfl dX1_causeOf_47 ?_
      refine lv_iload_n hx hb dX1_causeOf_48 rfl (lv_at hl 0 rfl) ?_
      refine lv_iconst (v := (-1)) hx hb dX1_causeOf_49 (by decide) ?_
      refine lv_ixor hx hb dX1_causeOf_50 ?_
      refine lv_topi (fun w44 _ => ?_)
      refine lv_iand hx hb dX1_causeOf_51 ?_
      refine lv_topi (fun w45 _ => ?_)
      refine lv_if_eq (tgt := 57) hx hb dX1_causeOf_52 (by decide) (fun c46 => ?_) (fun c46 => ?_)
      · skip
        have k47a : iv 0 0 w45 := iv_eql (iv_Eq c46) (iv_all w45) (iv_lit (n := 0) 0 (by decide)) (by decide) (by decide)
        refine lv_aload_n hx hb dX1_causeOf_57 rfl (lv_at hl 2 rfl) ?_
        refine b_get (ci := 1) (C := RX1) (T := TX1) (Nf := 2) (v := .ref (q 1)) hx hb hts in_X1_causeOf_X1 hown hK hH 55 (by decide) rfl rfl 0 (by decide) (hts (.fieldLink RX1 15 "StationLine$Putting" "bench" "LStationLine$Bench;") (List.mem_of_getElem? (i := 2) rfl)) rfl dX1_causeOf_58 ?_
        refine b_get (ci := 0) (C := RX0) (T := TX0) (Nf := 11) (v := .ref (q 11)) hx hb hts in_X1_causeOf_X0 hown hK hH 1 (by decide) rfl rfl 9 (by decide) (hts (.fieldLink RX1 55 "StationLine$Bench" "apart" "[I") (List.mem_of_getElem? (i := 4) rfl)) rfl dX1_causeOf_61 ?_
        refine lv_iload_n hx hb dX1_causeOf_64 rfl (lv_at hl 3 rfl) ?_
        refine b_iald (v := z0.2.1 11 (p0 : Int32).toNatClampNeg) hx hb hK hH 11 (by decide) rfl (iv_in hp0 (by decide) (by decide)) rfl dX1_causeOf_65 ?_
        refine lv_iload_n hx hb dX1_causeOf_66 rfl (lv_at hl 0 rfl) ?_
        refine lv_iand hx hb dX1_causeOf_67 ?_
        refine h_i (a := 0) (b := 1023) (iv_and2 (iv_all (z0.2.1 11 (p0 : Int32).toNatClampNeg)) i39 (by decide) (by decide)) (fun w48 i48 => ?_)
        refine lv_if_eq (tgt := 73) hx hb dX1_causeOf_68 (by decide) (fun c49 => ?_) (fun c49 => ?_)
        · skip
          have k50a : iv 0 0 w48 := iv_eql (iv_Eq c49) i48 (iv_lit (n := 0) 0 (by decide)) (by decide) (by decide)
          refine lv_aload_n hx hb dX1_causeOf_73 rfl (lv_at hl 2 rfl) ?_
          refine b_get (ci := 1) (C := RX1) (T := TX1) (Nf := 2) (v := .ref (q 1)) hx hb hts in_X1_causeOf_X1 hown hK hH 55 (by decide) rfl rfl 0 (by decide) (hts (.fieldLink RX1 15 "StationLine$Putting" "bench" "LStationLine$Bench;") (List.mem_of_getElem? (i := 2) rfl)) rfl dX1_causeOf_74 ?_
          refine b_get (ci := 0) (C := RX0) (T := TX0) (Nf := 11) (v := .ref (q 12)) hx hb hts in_X1_causeOf_X0 hown hK hH 1 (by decide) rfl rfl 10 (by decide) (hts (.fieldLink RX1 58 "StationLine$Bench" "held" "[I") (List.mem_of_getElem? (i := 5) rfl)) rfl dX1_causeOf_77 ?_
          refine lv_iload_n hx hb dX1_causeOf_80 rfl (lv_at hl 3 rfl) ?_
          refine b_iald (v := z0.2.1 12 (p0 : Int32).toNatClampNeg) hx hb hK hH 12 (by decide) rfl (iv_in hp0 (by decide) (by decide)) rfl dX1_causeOf_81 ?_
          refine lv_if_eq (tgt := 100) hx hb dX1_causeOf_82 (by decide) (fun c51 => ?_) (fun c51 => ?_)
          · skip
            have k52a : iv 0 0 (z0.2.1 12 (p0 : Int32).toNatClampNeg) := iv_eql (iv_Eq c51) (iv_all (z0.2.1 12 (p0 : Int32).toNatClampNeg)) (iv_lit (n := 0) 0 (by decide)) (by decide) (by decide)
            exact HJ100 (z0.2.1 56 (p0 : Int32).toNatClampNeg)  H locs ls k38a  hH (lv_sub hl [2, 3, 1] rfl)
          · skip
            refine lv_aload_n hx hb dX1_causeOf_85 rfl (lv_at hl 2 rfl) ?_
            refine b_get (ci := 1) (C := RX1) (T := TX1) (Nf := 2) (v := .ref (q 1)) hx hb hts in_X1_causeOf_X1 hown hK hH 55 (by decide) rfl rfl 0 (by decide) (hts (.fieldLink RX1 15 "StationLine$Putting" "bench" "LStationLine$Bench;") (List.mem_of_getElem? (i := 2) rfl)) rfl dX1_causeOf_86 ?_
            refine b_get (ci := 0) (C := RX0) (T := TX0) (Nf := 11) (v := .ref (q 12)) hx hb hts in_X1_causeOf_X0 hown hK hH 1 (by decide) rfl rfl 10 (by decide) (hts (.fieldLink RX1 58 "StationLine$Bench" "held" "[I") (List.mem_of_getElem? (i := 5) rfl)) rfl dX1_causeOf_89 ?_
            refine lv_iload_n hx hb dX1_causeOf_92 rfl (lv_at hl 3 rfl) ?_
            refine b_iald (v := z0.2.1 12 (p0 : Int32).toNatClampNeg) hx hb hK hH 12 (by decide) rfl (iv_in hp0 (by decide) (by decide)) rfl dX1_causeOf_93 ?_
            refine lv_iload_n hx hb dX1_causeOf_94 rfl (lv_at hl 1 rfl) ?_
            refine lv_icmp_eq (tgt := 100) hx hb dX1_causeOf_95 (by decide) (fun c54 => ?_) (fun c54 => ?_)
            · skip
              have k55a : iv 1 10 (z0.2.1 12 (p0 : Int32).toNatClampNeg) := iv_eql (iv_Eq c54) (iv_all (z0.2.1 12 (p0 : Int32).toNatClampNeg)) k38a (by decide) (by decide)
              exact HJ100 (z0.2.1 56 (p0 : Int32).toNatClampNeg)  H locs ls k38a  hH (lv_sub hl [2, 3, 1] rfl)
            · skip
              refine lv_iconst (v := 5) hx hb dX1_causeOf_98 (by decide) ?_
              exact hret _ z0 H locs _ _ ⟨hJ, (iv_w (iv_lit (n := 5) 5 (by decide)) (by decide) (by decide))⟩ hH dX1_causeOf_99
        · skip
          have k57a : iv 1 1023 w48 := iv_neLo (iv_nEq c49) i48 (by decide) (by decide)
          refine lv_iconst (v := 4) hx hb dX1_causeOf_71 (by decide) ?_
          exact hret _ z0 H locs _ _ ⟨hJ, (iv_w (iv_lit (n := 4) 4 (by decide)) (by decide) (by decide))⟩ hH dX1_causeOf_72
      · skip
        refine lv_iconst (v := 3) hx hb dX1_causeOf_55 (by decide) ?_
        exact hret _ z0 H locs _ _ ⟨hJ, (iv_w (iv_lit (n := 3) 3 (by decide)) (by decide) (by decide))⟩ hH dX1_causeOf_56
    · skip
      have k59a : iv (-2147483648) 2147483646 w41 := iv_ltl (iv_nLe c42) (iv_all w41) (iv_all w40) (by decide)
      have k59b : iv (-2147483647) 2147483647 w40 := iv_ltr (iv_nLe c42) (iv_all w41) (iv_all w40) (by decide)
      refine lv_iconst (v := 2) hx hb dX1_causeOf_37 (by decide) ?_
      exact hret _ z0 H locs _ _ ⟨hJ, (iv_w (iv_lit (n := 2) 2 (by decide)) (by decide) (by decide))⟩ hH dX1_causeOf_38
  · skip
    have k60a : iv 0 0 (z0.2.1 56 (p0 : Int32).toNatClampNeg) := iv_eql (iv_Eq c37) i36 (iv_lit (n := 0) 0 (by decide)) (by decide) (by decide)
    refine lv_iconst (v := 1) hx hb dX1_causeOf_11 (by decide) ?_
    exact hret _ z0 H locs _ _ ⟨hJ, (iv_w (iv_lit (n := 1) 1 (by decide)) (by decide) (by decide))⟩ hH dX1_causeOf_12
set_option maxHeartbeats 4000000 in
set_option maxRecDepth 100000 in
theorem g_X1_firstClash_55 (l : Launch) (D : va_G) (cy : Nat → ClassId) (q : Nat → Nat) (hq : bJ 66 q) (z0 : zS) (hI : IvC z0)  : bCi l yX1_firstClash wsX1_firstClash ({ frames := 4, cells := 0, slots := 0, locals := 97 }) D cy 66 (enC cy) q z0 [.ref (q 55)] (fun v z => jJ IvC 0 0 0 z0 z ∧ iv (-1) 9 v) := by
  refine hM_i cX1_firstClash (by decide) rfl (own := RX1) rfl hq (Nat.le_of_ble_eq_true rfl) ?_
  intro p e s m args below meth c Q ls H locs hx hb hml hown hts hK hZ hH hl hret
  have hl : lv_has ls 2 [(0, .ref (q 55))] := hl
  have hJ : jJ IvC 0 0 0 z0 z0 := jJ_rf _ _ _ hI
  have HL2 : ∀ (n : Nat) (x1_2 : Int32) (H : Heap) (locs : List Loc) (ls : Array Slot), iv 0 10 x1_2 → bH D 66 (enC cy) q z0 s.heap H locs → lv_has ls 2 [(0, .ref (q 55)), (1, .int x1_2)] → (10 - x1_2.toInt).toNat = n → W p l e ({ frames := 4, cells := 0, slots := 0, locals := 97 }) s m args below meth c H locs 0 0 Q (F0 m 2 ls []) := by
    intro n2
    induction n2 using Nat.strongRecOn with
    | ind n2 ih2 =>
      intro x1_2 H locs ls h1_2 hH hl hn2
      refine lv_iload_n hx hb dX1_firstClash_2 rfl (lv_at hl 1 rfl) ?_
      refine lv_aload_n hx hb dX1_firstClash_3 rfl (lv_at hl 0 rfl) ?_
      refine b_get (ci := 1) (C := RX1) (T := TX1) (Nf := 2) (v := .ref (q 1)) hx hb hts in_X1_firstClash_X1 hown hK hH 55 (by decide) rfl rfl 0 (by decide) (hts (.fieldLink RX1 15 "StationLine$Putting" "bench" "LStationLine$Bench;") (List.mem_of_getElem? (i := 1) rfl)) rfl dX1_firstClash_4 ?_
      refine b_get (ci := 0) (C := RX0) (T := TX0) (Nf := 11) (v := .int (z0.1 0)) hx hb hts in_X1_firstClash_X0 hown hK hH 1 (by decide) rfl rfl 0 (by decide) (hts (.fieldLink RX1 25 "StationLine$Bench" "size" "I") (List.mem_of_getElem? (i := 2) rfl)) rfl dX1_firstClash_7 ?_
      have i64 := IvC_s0 hJ.1
      refine lv_icmp_ge (tgt := 29) hx hb dX1_firstClash_10 (by decide) (fun c65 => ?_) (fun c65 => ?_)
      · skip
        refine lv_iconst (v := (-1)) hx hb dX1_firstClash_29 (by decide) ?_
        exact hret _ z0 H locs _ _ ⟨hJ, (iv_w (iv_lit (n := (-1)) (-1) (by decide)) (by decide) (by decide))⟩ hH dX1_firstClash_30
      · skip
        have k67a : iv 0 9 x1_2 := iv_ltl (iv_nLe c65) h1_2 i64 (by decide)
        have k67b : iv 1 10 (z0.1 0) := iv_ltr (iv_nLe c65) h1_2 i64 (by decide)
        refine lv_aload_n hx hb dX1_firstClash_13 rfl (lv_at hl 0 rfl) ?_
        refine lv_iload_n hx hb dX1_firstClash_14 rfl (lv_at hl 1 rfl) ?_
        refine b_calli (As := [.int x1_2]) (rest := []) ⟨hx, hb, hml, hown, hts⟩ 55 1 (g_X1_causeOf_55 l D cy q hH.2.1 z0 hJ.1 x1_2 k67a) (cwV 1 hts gX1_firstClash_X1_causeOf rfl rfl rfl (by decide +kernel) ⟨Nat.le_of_ble_eq_true rfl, Nat.le_of_ble_eq_true rfl⟩) hK hZ hH (by decide) rfl rfl rfl hl.1 rfl (Nat.le_of_ble_eq_true rfl) ⟨Nat.zero_le _, Nat.zero_le _⟩ dX1_firstClash_15 (fun w68 z68 H locs hp hH => ?_)
        rw [Ag_0 hp.1.2] at hH
        have i68 := hp.2
        refine lv_if_eq (tgt := 23) hx hb dX1_firstClash_18 (by decide) (fun c69 => ?_) (fun c69 => ?_)
        · skip
          have k70a : iv 0 0 w68 := iv_eql (iv_Eq c69) i68 (iv_lit (n := 0) 0 (by decide)) (by decide) (by decide)
          have j71 : iv 1 10 (x1_2 + 1) := iv_add k67a (iv_lit (n := 1) 1 (by decide)) (by decide) (by decide) (by decide) (by decide)
          have e71 : (x1_2 + 1).toInt = x1_2.toInt + 1 := (iv_addE k67a (iv_lit (n := 1) 1 (by decide)) (by decide) (by decide)).trans rfl
          refine lv_iinc (v := (x1_2 + 1)) (lv' := [(1, .int (x1_2 + 1)), (0, .ref (q 55))]) hx hb dX1_firstClash_23 hl (k := 1) rfl rfl (by decide) rfl (fun ls hl => ?_)
          refine lv_goto (tgt := 2) hx hb dX1_firstClash_26 (by decide) ?_
          exact ih2 _ (ms_up e71 j71.2 hn2) (x1_2 + 1)  H locs ls (iv_w j71 (by decide) (by decide))  hH (lv_sub hl [1, 0] rfl) rfl
        · skip
          have k72a : iv 1 6 w68 := iv_neLo (iv_nEq c69) i68 (by decide) (by decide)
          refine lv_iload_n hx hb dX1_firstClash_21 rfl (lv_at hl 1 rfl) ?_
          exact hret _ z0 H locs _ _ ⟨hJ, (iv_w k67a (by decide) (by decide))⟩ hH dX1_firstClash_22
  refine lv_iconst (v := 0) hx hb dX1_firstClash_0 (by decide) ?_
  refine lv_istore_n (lv' := [(1, .int 0), (0, .ref (q 55))]) hx hb dX1_firstClash_1 rfl hl (by decide) rfl (fun ls hl => ?_)
  exact HL2 _ 0  H locs ls (iv_w (iv_lit (n := 0) 0 (by decide)) (by decide) (by decide))  hH (lv_sub hl [1, 0] rfl) rfl
set_option maxHeartbeats 4000000 in
set_option maxRecDepth 100000 in
theorem g_X1_copyRow_27 (l : Launch) (D : va_G) (cy : Nat → ClassId) (q : Nat → Nat) (hq : bJ 66 q) (z0 : zS) (hI : IvC z0)  : bCv l yX1_copyRow wsX1_copyRow ({ frames := 1, cells := 0, slots := 0, locals := 40 }) D cy 66 (enC cy) q z0 [.ref (q 27), .ref (q 13)] (fun z => jJ IvC 0 268435456 0 z0 z) := by
  refine hM_v cX1_copyRow (by decide) rfl (own := RX1) rfl hq (Nat.le_of_ble_eq_true rfl) ?_
  intro p e s m args below meth c Q ls H locs hx hb hml hown hts hK hZ hH hl hret
  have hl : lv_has ls 2 [(0, .ref (q 27)), (1, .ref (q 13))] := hl
  have hJ : jJ IvC 0 268435456 0 z0 z0 := jJ_rf _ _ _ hI
  refine lv_aload_n hx hb dX1_copyRow_0 rfl (lv_at hl 1 rfl) ?_
  refine b_get (ci := 1) (C := RX1) (T := TX1) (Nf := 2) (v := .ref (q 14)) hx hb hts in_X1_copyRow_X1 hown hK hH 13 (by decide) rfl rfl 1 (by decide) (hts (.fieldLink RX1 9 "StationLine$Putting" "row" "[I") (List.mem_of_getElem? (i := 1) rfl)) rfl dX1_copyRow_1 ?_
  refine lv_iconst (v := 0) hx hb dX1_copyRow_4 (by decide) ?_
  refine lv_aload_n hx hb dX1_copyRow_5 rfl (lv_at hl 0 rfl) ?_
  refine b_get (ci := 1) (C := RX1) (T := TX1) (Nf := 2) (v := .ref (q 28)) hx hb hts in_X1_copyRow_X1 hown hK hH 27 (by decide) rfl rfl 1 (by decide) (hts (.fieldLink RX1 9 "StationLine$Putting" "row" "[I") (List.mem_of_getElem? (i := 1) rfl)) rfl dX1_copyRow_6 ?_
  refine lv_iconst (v := 0) hx hb dX1_copyRow_9 (by decide) ?_
  refine lv_bipush (v := 10) hx hb dX1_copyRow_10 (by decide) ?_
  refine b_copyi hx hb (by rw [hml]; exact hl.1.symm) hown (hts (.methodLink RX1 19 arraycopyName) (List.mem_of_getElem? (i := 2) rfl)) (hts (.native arraycopyName) (List.mem_of_getElem? (i := 3) rfl)) (hts (.static arraycopyName) (List.mem_of_getElem? (i := 4) rfl)) (hts (.initialized "java/lang/System") (List.mem_of_getElem? (i := 5) rfl)) hK hH 14 28 (by decide) (by decide) rfl rfl (by decide) (by decide) (by decide) (by decide) (by decide) (Nat.le_of_ble_eq_true rfl) (Nat.le_of_ble_eq_true rfl) (upA z0 28 (va_cpy (z0.2.1 14) (z0.2.1 28) (0 : Int32).toNatClampNeg (0 : Int32).toNatClampNeg (10 : Int32).toNatClampNeg)) rfl (enC_A _ _ _ _ _) dX1_copyRow_12 (fun H locs hH => ?_)
  obtain ⟨z2, hz2⟩ : ∃ w : zS, w = upA z0 28 (va_cpy (z0.2.1 14) (z0.2.1 28) (0 : Int32).toNatClampNeg (0 : Int32).toNatClampNeg (10 : Int32).toNatClampNeg) := ⟨_, rfl⟩
  rw [← hz2] at hH
  have hJ : jJ IvC 0 268435456 0 z0 z2 := by rw [hz2]; exact jJ_A hJ (by decide) (IvC_R28 hJ.1 (rw_cpy (IvC_a14 hJ.1) (IvC_a28 hJ.1)))
  exact hret z2 H locs _ _ hJ hH dX1_copyRow_15
set_option maxHeartbeats 4000000 in
set_option maxRecDepth 100000 in
theorem g_X1_copyRow_13_27 (l : Launch) (D : va_G) (cy : Nat → ClassId) (q : Nat → Nat) (hq : bJ 66 q) (z0 : zS) (hI : IvC z0)  : bCv l yX1_copyRow wsX1_copyRow ({ frames := 1, cells := 0, slots := 0, locals := 40 }) D cy 66 (enC cy) q z0 [.ref (q 13), .ref (q 27)] (fun z => jJ IvC 0 16384 0 z0 z) := by
  refine hM_v cX1_copyRow (by decide) rfl (own := RX1) rfl hq (Nat.le_of_ble_eq_true rfl) ?_
  intro p e s m args below meth c Q ls H locs hx hb hml hown hts hK hZ hH hl hret
  have hl : lv_has ls 2 [(0, .ref (q 13)), (1, .ref (q 27))] := hl
  have hJ : jJ IvC 0 16384 0 z0 z0 := jJ_rf _ _ _ hI
  refine lv_aload_n hx hb dX1_copyRow_0 rfl (lv_at hl 1 rfl) ?_
  refine b_get (ci := 1) (C := RX1) (T := TX1) (Nf := 2) (v := .ref (q 28)) hx hb hts in_X1_copyRow_X1 hown hK hH 27 (by decide) rfl rfl 1 (by decide) (hts (.fieldLink RX1 9 "StationLine$Putting" "row" "[I") (List.mem_of_getElem? (i := 1) rfl)) rfl dX1_copyRow_1 ?_
  refine lv_iconst (v := 0) hx hb dX1_copyRow_4 (by decide) ?_
  refine lv_aload_n hx hb dX1_copyRow_5 rfl (lv_at hl 0 rfl) ?_
  refine b_get (ci := 1) (C := RX1) (T := TX1) (Nf := 2) (v := .ref (q 14)) hx hb hts in_X1_copyRow_X1 hown hK hH 13 (by decide) rfl rfl 1 (by decide) (hts (.fieldLink RX1 9 "StationLine$Putting" "row" "[I") (List.mem_of_getElem? (i := 1) rfl)) rfl dX1_copyRow_6 ?_
  refine lv_iconst (v := 0) hx hb dX1_copyRow_9 (by decide) ?_
  refine lv_bipush (v := 10) hx hb dX1_copyRow_10 (by decide) ?_
  refine b_copyi hx hb (by rw [hml]; exact hl.1.symm) hown (hts (.methodLink RX1 19 arraycopyName) (List.mem_of_getElem? (i := 2) rfl)) (hts (.native arraycopyName) (List.mem_of_getElem? (i := 3) rfl)) (hts (.static arraycopyName) (List.mem_of_getElem? (i := 4) rfl)) (hts (.initialized "java/lang/System") (List.mem_of_getElem? (i := 5) rfl)) hK hH 28 14 (by decide) (by decide) rfl rfl (by decide) (by decide) (by decide) (by decide) (by decide) (Nat.le_of_ble_eq_true rfl) (Nat.le_of_ble_eq_true rfl) (upA z0 14 (va_cpy (z0.2.1 28) (z0.2.1 14) (0 : Int32).toNatClampNeg (0 : Int32).toNatClampNeg (10 : Int32).toNatClampNeg)) rfl (enC_A _ _ _ _ _) dX1_copyRow_12 (fun H locs hH => ?_)
  obtain ⟨z2, hz2⟩ : ∃ w : zS, w = upA z0 14 (va_cpy (z0.2.1 28) (z0.2.1 14) (0 : Int32).toNatClampNeg (0 : Int32).toNatClampNeg (10 : Int32).toNatClampNeg) := ⟨_, rfl⟩
  rw [← hz2] at hH
  have hJ : jJ IvC 0 16384 0 z0 z2 := by rw [hz2]; exact jJ_A hJ (by decide) (IvC_R14 hJ.1 (rw_cpy (IvC_a28 hJ.1) (IvC_a14 hJ.1)))
  exact hret z2 H locs _ _ hJ hH dX1_copyRow_15
set_option maxHeartbeats 4000000 in
set_option maxRecDepth 100000 in
theorem g_X1_copyRow_13_55 (l : Launch) (D : va_G) (cy : Nat → ClassId) (q : Nat → Nat) (hq : bJ 66 q) (z0 : zS) (hI : IvC z0)  : bCv l yX1_copyRow wsX1_copyRow ({ frames := 1, cells := 0, slots := 0, locals := 40 }) D cy 66 (enC cy) q z0 [.ref (q 13), .ref (q 55)] (fun z => jJ IvC 0 16384 0 z0 z) := by
  refine hM_v cX1_copyRow (by decide) rfl (own := RX1) rfl hq (Nat.le_of_ble_eq_true rfl) ?_
  intro p e s m args below meth c Q ls H locs hx hb hml hown hts hK hZ hH hl hret
  have hl : lv_has ls 2 [(0, .ref (q 13)), (1, .ref (q 55))] := hl
  have hJ : jJ IvC 0 16384 0 z0 z0 := jJ_rf _ _ _ hI
  refine lv_aload_n hx hb dX1_copyRow_0 rfl (lv_at hl 1 rfl) ?_
  refine b_get (ci := 1) (C := RX1) (T := TX1) (Nf := 2) (v := .ref (q 56)) hx hb hts in_X1_copyRow_X1 hown hK hH 55 (by decide) rfl rfl 1 (by decide) (hts (.fieldLink RX1 9 "StationLine$Putting" "row" "[I") (List.mem_of_getElem? (i := 1) rfl)) rfl dX1_copyRow_1 ?_
  refine lv_iconst (v := 0) hx hb dX1_copyRow_4 (by decide) ?_
  refine lv_aload_n hx hb dX1_copyRow_5 rfl (lv_at hl 0 rfl) ?_
  refine b_get (ci := 1) (C := RX1) (T := TX1) (Nf := 2) (v := .ref (q 14)) hx hb hts in_X1_copyRow_X1 hown hK hH 13 (by decide) rfl rfl 1 (by decide) (hts (.fieldLink RX1 9 "StationLine$Putting" "row" "[I") (List.mem_of_getElem? (i := 1) rfl)) rfl dX1_copyRow_6 ?_
  refine lv_iconst (v := 0) hx hb dX1_copyRow_9 (by decide) ?_
  refine lv_bipush (v := 10) hx hb dX1_copyRow_10 (by decide) ?_
  refine b_copyi hx hb (by rw [hml]; exact hl.1.symm) hown (hts (.methodLink RX1 19 arraycopyName) (List.mem_of_getElem? (i := 2) rfl)) (hts (.native arraycopyName) (List.mem_of_getElem? (i := 3) rfl)) (hts (.static arraycopyName) (List.mem_of_getElem? (i := 4) rfl)) (hts (.initialized "java/lang/System") (List.mem_of_getElem? (i := 5) rfl)) hK hH 56 14 (by decide) (by decide) rfl rfl (by decide) (by decide) (by decide) (by decide) (by decide) (Nat.le_of_ble_eq_true rfl) (Nat.le_of_ble_eq_true rfl) (upA z0 14 (va_cpy (z0.2.1 56) (z0.2.1 14) (0 : Int32).toNatClampNeg (0 : Int32).toNatClampNeg (10 : Int32).toNatClampNeg)) rfl (enC_A _ _ _ _ _) dX1_copyRow_12 (fun H locs hH => ?_)
  obtain ⟨z2, hz2⟩ : ∃ w : zS, w = upA z0 14 (va_cpy (z0.2.1 56) (z0.2.1 14) (0 : Int32).toNatClampNeg (0 : Int32).toNatClampNeg (10 : Int32).toNatClampNeg) := ⟨_, rfl⟩
  rw [← hz2] at hH
  have hJ : jJ IvC 0 16384 0 z0 z2 := by rw [hz2]; exact jJ_A hJ (by decide) (IvC_R14 hJ.1 (rw_cpy (IvC_a56 hJ.1) (IvC_a14 hJ.1)))
  exact hret z2 H locs _ _ hJ hH dX1_copyRow_15
set_option maxHeartbeats 4000000 in
set_option maxRecDepth 100000 in
theorem g_X1_squareAt_13 (l : Launch) (D : va_G) (cy : Nat → ClassId) (q : Nat → Nat) (hq : bJ 66 q) (z0 : zS) (hI : IvC z0) (p0 : Int32) : bCl l yX1_squareAt wsX1_squareAt ({ frames := 3, cells := 0, slots := 0, locals := 74 }) D cy 66 (enC cy) q z0 [.ref (q 13), .int p0] (fun v z => jJ IvC 0 0 0 z0 z) := by
  refine hM_l cX1_squareAt (by decide) rfl (own := RX1) rfl hq (Nat.le_of_ble_eq_true rfl) ?_
  intro p e s m args below meth c Q ls H locs hx hb hml hown hts hK hZ hH hl hret
  have hl : lv_has ls 4 [(0, .ref (q 13)), (1, .int p0)] := hl
  have hJ : jJ IvC 0 0 0 z0 z0 := jJ_rf _ _ _ hI
  refine lv_aload_n hx hb dX1_squareAt_0 rfl (lv_at hl 0 rfl) ?_
  refine b_get (ci := 1) (C := RX1) (T := TX1) (Nf := 2) (v := .ref (q 1)) hx hb hts in_X1_squareAt_X1 hown hK hH 13 (by decide) rfl rfl 0 (by decide) (hts (.fieldLink RX1 15 "StationLine$Putting" "bench" "LStationLine$Bench;") (List.mem_of_getElem? (i := 1) rfl)) rfl dX1_squareAt_1 ?_
  refine lv_aload_n hx hb dX1_squareAt_4 rfl (lv_at hl 0 rfl) ?_
  refine lv_iload_n hx hb dX1_squareAt_5 rfl (lv_at hl 1 rfl) ?_
  refine b_calli (As := [.int p0]) (rest := [.ref (q 1)]) ⟨hx, hb, hml, hown, hts⟩ 13 1 (g_X1_setAt_13 l D cy q hH.2.1 z0 hJ.1 p0) (cwV 1 hts gX1_squareAt_X1_setAt rfl rfl rfl (by decide +kernel) ⟨Nat.le_of_ble_eq_true rfl, Nat.le_of_ble_eq_true rfl⟩) hK hZ hH (by decide) rfl rfl rfl hl.1 rfl (Nat.le_of_ble_eq_true rfl) ⟨Nat.zero_le _, Nat.zero_le _⟩ dX1_squareAt_6 (fun w5 z5 H locs hp hH => ?_)
  rw [Ag_0 hp.1.2] at hH
  have i5 := hp.2
  refine b_calli (As := [.int w5]) (rest := []) ⟨hx, hb, hml, hown, hts⟩ 1 0 (g_X0_loadOf_1 l D cy q hH.2.1 z0 hJ.1 w5) (cwV 1 hts gX1_squareAt_X0_loadOf rfl rfl rfl (by decide +kernel) ⟨Nat.le_of_ble_eq_true rfl, Nat.le_of_ble_eq_true rfl⟩) hK hZ hH (by decide) rfl rfl rfl hl.1 rfl (Nat.le_of_ble_eq_true rfl) ⟨Nat.zero_le _, Nat.zero_le _⟩ dX1_squareAt_9 (fun w6 z6 H locs hp hH => ?_)
  rw [Ag_0 hp.1.2] at hH
  refine lv_i2l hx hb dX1_squareAt_12 rfl ?_
  refine h_l (fun w7 => ?_)
  refine lv_lstore_n (lv' := [(2, .long w7), (0, .ref (q 13)), (1, .int p0)]) hx hb dX1_squareAt_13 rfl hl (by decide) rfl (fun ls hl => ?_)
  refine lv_lload_n hx hb dX1_squareAt_14 rfl (lv_at hl 0 rfl) ?_
  refine lv_lload_n hx hb dX1_squareAt_15 rfl (lv_at hl 0 rfl) ?_
  refine lv_lmul hx hb dX1_squareAt_16 ?_
  refine h_l (fun w8 => ?_)
  exact hret _ z0 H locs _ _ hJ hH dX1_squareAt_17
set_option maxHeartbeats 4000000 in
set_option maxRecDepth 100000 in
theorem g_X1_squareSum_13 (l : Launch) (D : va_G) (cy : Nat → ClassId) (q : Nat → Nat) (hq : bJ 66 q) (z0 : zS) (hI : IvC z0)  : bCl l yX1_squareSum wsX1_squareSum ({ frames := 4, cells := 0, slots := 0, locals := 97 }) D cy 66 (enC cy) q z0 [.ref (q 13)] (fun v z => jJ IvC 0 0 0 z0 z) := by
  refine hM_l cX1_squareSum (by decide) rfl (own := RX1) rfl hq (Nat.le_of_ble_eq_true rfl) ?_
  intro p e s m args below meth c Q ls H locs hx hb hml hown hts hK hZ hH hl hret
  have hl : lv_has ls 4 [(0, .ref (q 13))] := hl
  have hJ : jJ IvC 0 0 0 z0 z0 := jJ_rf _ _ _ hI
  have HL4 : ∀ (n : Nat) (x1_4 : Int64) (x3_4 : Int32) (H : Heap) (locs : List Loc) (ls : Array Slot), iv 1 11 x3_4 → bH D 66 (enC cy) q z0 s.heap H locs → lv_has ls 4 [(0, .ref (q 13)), (1, .long x1_4), (3, .int x3_4)] → (11 - x3_4.toInt).toNat = n → W p l e ({ frames := 4, cells := 0, slots := 0, locals := 97 }) s m args below meth c H locs 0 0 Q (F0 m 4 ls []) := by
    intro n4
    induction n4 using Nat.strongRecOn with
    | ind n4 ih4 =>
      intro x1_4 x3_4 H locs ls h3_4 hH hl hn4
      refine lv_iload_n hx hb dX1_squareSum_4 rfl (lv_at hl 2 rfl) ?_
      refine lv_bipush (v := 10) hx hb dX1_squareSum_5 (by decide) ?_
      refine lv_icmp_gt (tgt := 24) hx hb dX1_squareSum_7 (by decide) (fun c37 => ?_) (fun c37 => ?_)
      · skip
        have k38b : iv 11 11 x3_4 := iv_ltr (iv_Lt c37) (iv_lit (n := 10) 10 (by decide)) h3_4 (by decide)
        refine lv_lload_n hx hb dX1_squareSum_24 rfl (lv_at hl 1 rfl) ?_
        exact hret _ z0 H locs _ _ hJ hH dX1_squareSum_25
      · skip
        have k39a : iv 1 10 x3_4 := iv_lel (iv_nLt c37) h3_4 (iv_lit (n := 10) 10 (by decide))
        refine lv_lload_n hx hb dX1_squareSum_10 rfl (lv_at hl 1 rfl) ?_
        refine lv_aload_n hx hb dX1_squareSum_11 rfl (lv_at hl 0 rfl) ?_
        refine lv_iload_n hx hb dX1_squareSum_12 rfl (lv_at hl 2 rfl) ?_
        refine b_calll (As := [.int x3_4]) (rest := [.long x1_4]) ⟨hx, hb, hml, hown, hts⟩ 13 1 (g_X1_squareAt_13 l D cy q hH.2.1 z0 hJ.1 x3_4) (cwV 1 hts gX1_squareSum_X1_squareAt rfl rfl rfl (by decide +kernel) ⟨Nat.le_of_ble_eq_true rfl, Nat.le_of_ble_eq_true rfl⟩) hK hZ hH (by decide) rfl rfl rfl hl.1 rfl (Nat.le_of_ble_eq_true rfl) ⟨Nat.zero_le _, Nat.zero_le _⟩ dX1_squareSum_13 (fun w40 z40 H locs hp hH => ?_)
        rw [Ag_0 hp.2] at hH
        refine lv_ladd hx hb dX1_squareSum_16 ?_
        refine h_l (fun w41 => ?_)
        refine lv_lstore_n (lv' := [(1, .long w41), (0, .ref (q 13)), (3, .int x3_4)]) hx hb dX1_squareSum_17 rfl hl (by decide) rfl (fun ls hl => ?_)
        have j42 : iv 2 11 (x3_4 + 1) := iv_add k39a (iv_lit (n := 1) 1 (by decide)) (by decide) (by decide) (by decide) (by decide)
        have e42 : (x3_4 + 1).toInt = x3_4.toInt + 1 := (iv_addE k39a (iv_lit (n := 1) 1 (by decide)) (by decide) (by decide)).trans rfl
        refine lv_iinc (v := (x3_4 + 1)) (lv' := [(3, .int (x3_4 + 1)), (1, .long w41), (0, .ref (q 13))]) hx hb dX1_squareSum_18 hl (k := 2) rfl rfl (by decide) rfl (fun ls hl => ?_)
        refine lv_goto (tgt := 4) hx hb dX1_squareSum_21 (by decide) ?_
        exact ih4 _ (ms_up e42 j42.2 hn4) w41 (x3_4 + 1)  H locs ls (iv_w j42 (by decide) (by decide))  hH (lv_sub hl [2, 1, 0] rfl) rfl
  refine lv_lconst (v := 0) hx hb dX1_squareSum_0 (by decide) ?_
  refine lv_lstore_n (lv' := [(1, .long 0), (0, .ref (q 13))]) hx hb dX1_squareSum_1 rfl hl (by decide) rfl (fun ls hl => ?_)
  refine lv_iconst (v := 1) hx hb dX1_squareSum_2 (by decide) ?_
  refine lv_istore_n (lv' := [(3, .int 1), (1, .long 0), (0, .ref (q 13))]) hx hb dX1_squareSum_3 rfl hl (by decide) rfl (fun ls hl => ?_)
  exact HL4 _ 0 1  H locs ls (iv_w (iv_lit (n := 1) 1 (by decide)) (by decide) (by decide))  hH (lv_sub hl [2, 1, 0] rfl) rfl
