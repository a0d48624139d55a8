set_option maxHeartbeats 4000000 in
set_option maxRecDepth 100000 in
theorem c_X12_in (l : Launch) (D : va_G) (k : Nat → ClassId) (p0 : Int64) (p1 : Int64) (p2 : Int64) (sz : Nat) : Met l yX12_in (ww yX12_in cX12_in 6 (some .boolean)) ({ frames := 0, cells := 0, slots := 0, locals := 0 }) (Pre0 D k [] sz [.long p0, .long p1, .long p2]) (va_Qi (fun (r : Int32) (_ : Unit) => (0 ≤ r.toInt ∧ r.toInt ≤ 1) ∧ ((r.toInt = 1 ∧ p1.toInt ≤ p0.toInt ∧ p0.toInt ≤ p2.toInt) ∨ (r.toInt = 0 ∧ (p0.toInt < p1.toInt ∨ p2.toInt < p0.toInt)))) (fun (_ : Unit) tZ => Bw D k (va_A [] sz) [] tZ) (va_A [] sz)) 0 0 (va_A [] sz) := by
  refine Met.ofW (cc := cX12_in) (maxL := 6) (ret := (some .boolean)) (by decide +kernel) rfl ?_
  intro p e s m args below meth c s₁ B hml hv
  obtain ⟨rfl, hsz, hP, hK, hD0, hN⟩ := hv
  have hx := B.exec
  have hb := B.bytes
  have hr := B.returns
  have hts : ∀ w ∈ TT, w.before _ s = true := fun w h => atoms_spec (ws := ww yX12_in cX12_in 6 (some .boolean)) B.pre w (List.mem_cons_of_mem _ h)
  have hown : s.vm.findClass RX12 = some m.cls := findClass_of_methodNamed B.named
  have hlocks := B.notSynchronized
  subst hsz
  have hD := hD0.self (sz := s.heap.size)
  generalize hAe : va_A [] s.heap.size = A at hD ⊢
  have hA : ∀ q : Nat, s.heap.size ≤ q → A q := fun q h => by rw [← hAe]; exact Or.inr h
  have hS : va_S A s.heap s.heap [] := va_S.rf
  have hl := lv_entry ([.long p0, .long p1, .long p2]) (n := 6) (Nat.le_of_ble_eq_true rfl)
  rw [lg_entry_eq]
  generalize (lg_sl ([.long p0, .long p1, .long p2]) ++ List.replicate (6 - (lg_sl ([.long p0, .long p1, .long p2])).length) Slot.unset).toArray = ls at hl ⊢
  have hl : lv_has ls 6 [(0, .long p0), (2, .long p1), (4, .long p2)] := hl
  refine lv_lload_n hx hb dX12_in_0 rfl (lv_at hl 0 rfl) ?_
  refine lv_lload_n hx hb dX12_in_1 rfl (lv_at hl 1 rfl) ?_
  refine W.lcmp hx hb dX12_in_2 ?_
  refine lv_if_lt (tgt := 17) hx hb dX12_in_3 (by decide) (fun h_1 => ?_) (fun h_1 => ?_)
  · skip
    have zh_1 : p0.toInt < p1.toInt := zL_lt h_1 rfl rfl
    refine lv_iconst (v := 0) hx hb dX12_in_17 (by decide) ?_
    obtain ⟨hP9, hD9⟩ := sub2 hP hD (ws' := []) [] (by decide +kernel) rfl
    exact W.zret (v := 0) hx hb hr (by decide) (fun tZ ht hW => ⟨⟨0, (), rfl, ⟨(show 0 ≤ 0 ∧ 0 ≤ 1 from by omega), (show (0 = 1 ∧ p1.toInt ≤ p0.toInt ∧ p0.toInt ≤ p2.toInt) ∨ (0 = 0 ∧ (p0.toInt < p1.toInt ∨ p2.toInt < p0.toInt)) from by omega)⟩, by rw [ht]; exact hP9, va_K.moved hW.alike hK, hD9⟩, hS.F ht⟩) hS.2.2 dX12_in_18
  · skip
    have zh_1 : p1.toInt ≤ p0.toInt := zL_nlt h_1 rfl rfl
    refine lv_lload_n hx hb dX12_in_6 rfl (lv_at hl 0 rfl) ?_
    refine lv_lload hx hb dX12_in_7 (lv_at hl 2 rfl) ?_
    refine W.lcmp hx hb dX12_in_9 ?_
    refine lv_if_gt (tgt := 17) hx hb dX12_in_10 (by decide) (fun h_2 => ?_) (fun h_2 => ?_)
    · skip
      have zh_2 : p2.toInt < p0.toInt := zL_gt h_2 rfl rfl
      refine lv_iconst (v := 0) hx hb dX12_in_17 (by decide) ?_
      obtain ⟨hP9, hD9⟩ := sub2 hP hD (ws' := []) [] (by decide +kernel) rfl
      exact W.zret (v := 0) hx hb hr (by decide) (fun tZ ht hW => ⟨⟨0, (), rfl, ⟨(show 0 ≤ 0 ∧ 0 ≤ 1 from by omega), (show (0 = 1 ∧ p1.toInt ≤ p0.toInt ∧ p0.toInt ≤ p2.toInt) ∨ (0 = 0 ∧ (p0.toInt < p1.toInt ∨ p2.toInt < p0.toInt)) from by omega)⟩, by rw [ht]; exact hP9, va_K.moved hW.alike hK, hD9⟩, hS.F ht⟩) hS.2.2 dX12_in_18
    · skip
      have zh_2 : p0.toInt ≤ p2.toInt := zL_ngt h_2 rfl rfl
      refine lv_iconst (v := 1) hx hb dX12_in_13 (by decide) ?_
      refine lv_goto (tgt := 18) hx hb dX12_in_14 (by decide) ?_
      obtain ⟨hP9, hD9⟩ := sub2 hP hD (ws' := []) [] (by decide +kernel) rfl
      exact W.zret (v := 1) hx hb hr (by decide) (fun tZ ht hW => ⟨⟨1, (), rfl, ⟨(show 0 ≤ 1 ∧ 1 ≤ 1 from by omega), (show (1 = 1 ∧ p1.toInt ≤ p0.toInt ∧ p0.toInt ≤ p2.toInt) ∨ (1 = 0 ∧ (p0.toInt < p1.toInt ∨ p2.toInt < p0.toInt)) from by omega)⟩, by rw [ht]; exact hP9, va_K.moved hW.alike hK, hD9⟩, hS.F ht⟩) hS.2.2 dX12_in_18
set_option maxHeartbeats 4000000 in
set_option maxRecDepth 100000 in
theorem c_X12_isSlot (l : Launch) (D : va_G) (k : Nat → ClassId) (p0 : Int32) (sz : Nat) : Met l yX12_isSlot (ww yX12_isSlot cX12_isSlot 1 (some .boolean)) ({ frames := 1, cells := 0, slots := 0, locals := 25 }) (Pre0 D k [] sz [.int p0]) (va_Qi (fun (r : Int32) (_ : Unit) => (0 ≤ r.toInt ∧ r.toInt ≤ 1) ∧ ((r.toInt = 1 ∧ 0 ≤ p0.toInt ∧ p0.toInt ≤ 3) ∨ (r.toInt = 0 ∧ (p0.toInt < 0 ∨ 3 < p0.toInt)))) (fun (_ : Unit) tZ => Bw D k (va_A [] sz) [] tZ) (va_A [] sz)) 0 0 (va_A [] sz) := by
  refine Met.ofW (cc := cX12_isSlot) (maxL := 1) (ret := (some .boolean)) (by decide +kernel) rfl ?_
  intro p e s m args below meth c s₁ B hml hv
  obtain ⟨rfl, hsz, hP, hK, hD0, hN⟩ := hv
  have hx := B.exec
  have hb := B.bytes
  have hr := B.returns
  have hts : ∀ w ∈ TT, w.before _ s = true := fun w h => atoms_spec (ws := ww yX12_isSlot cX12_isSlot 1 (some .boolean)) B.pre w (List.mem_cons_of_mem _ h)
  have hown : s.vm.findClass RX12 = some m.cls := findClass_of_methodNamed B.named
  have hlocks := B.notSynchronized
  subst hsz
  have hD := hD0.self (sz := s.heap.size)
  generalize hAe : va_A [] s.heap.size = A at hD ⊢
  have hA : ∀ q : Nat, s.heap.size ≤ q → A q := fun q h => by rw [← hAe]; exact Or.inr h
  have hS : va_S A s.heap s.heap [] := va_S.rf
  have hl := lv_entry ([.int p0]) (n := 1) (Nat.le_of_ble_eq_true rfl)
  rw [lg_entry_eq]
  generalize (lg_sl ([.int p0]) ++ List.replicate (1 - (lg_sl ([.int p0])).length) Slot.unset).toArray = ls at hl ⊢
  have hl : lv_has ls 1 [(0, .int p0)] := hl
  refine lv_iload_n hx hb dX12_isSlot_0 rfl (lv_at hl 0 rfl) ?_
  refine lv_i2l (v := p0.toInt64) hx hb dX12_isSlot_1 rfl ?_
  refine lv_lconst (v := 0) hx hb dX12_isSlot_2 (by decide) ?_
  refine lv_ldc2 (v := 3) hx hb hown (hts _ tw_6_187) dX12_isSlot_3 ?_
  obtain ⟨hPc, hDc, hFc⟩ := sub3 hP hD hS hA (ws' := []) [] (by decide +kernel) rfl
  refine va_calli (va_runS (As := [.long p0.toInt64, .long 0, .long 3]) (rest := []) ⟨hx, hb, hml, hown, hts⟩ (c_X12_in l D k p0.toInt64 0 3 s.heap.size) (va_cwS 3 hts (gS tw_6_188 tw_6_189 tw_1_13 tw_6_190) rfl rfl rfl hdS_X12_in ⟨Nat.le_of_ble_eq_true rfl, Nat.le_of_ble_eq_true rfl⟩) (cz_S hK hPc hDc hN [.long p0.toInt64, .long 0, .long 3]) rfl rfl hl.1 rfl (lv_room (Nat.le_of_ble_eq_true rfl)) dX12_isSlot_6 ⟨Nat.le_of_ble_eq_true rfl, Nat.le_of_ble_eq_true rfl⟩) hS (fun q _ h => hFc q h) hFc (fun r_1 uZ tZ H1 locs ht hvm hw hB hz1 hk1 hS => ?_)
  obtain ⟨hP1, hK1, hD1⟩ := hB
  rw [ht] at hP1
  obtain ⟨hP, hD⟩ := va_join (wr := []) (w1 := []) hP hD [] [] rfl rfl (by decide +kernel) (by decide +kernel) hk1 hFc hP1 hD1
  clear hK1 hP1 hD1 hPc hDc hFc
  clear hk1 hz1 ht hvm
  have hP : va_P D vwCl [] H1 := hP
  have hD : va_D A [] := hD
  generalize H1 = H at hP hS ⊢
  have hw_2 : (0 ≤ r_1.toInt ∧ r_1.toInt ≤ 1) ∧ ((r_1.toInt = 1 ∧ 0 ≤ p0.toInt64.toInt ∧ p0.toInt64.toInt ≤ 3) ∨ (r_1.toInt = 0 ∧ (p0.toInt64.toInt < 0 ∨ 3 < p0.toInt64.toInt))) := hw
  obtain ⟨hw_3, hw_4⟩ := hw_2
  clear hw
  simp only [Int32.toInt_toInt64] at hw_3 hw_4
  obtain ⟨hP9, hD9⟩ := sub2 hP hD (ws' := []) [] (by decide +kernel) rfl
  exact W.zret (v := r_1) hx hb hr (z_nar (by omega)) (fun tZ ht hW => ⟨⟨r_1, (), rfl, ⟨(show 0 ≤ r_1.toInt ∧ r_1.toInt ≤ 1 from by omega), (show (r_1.toInt = 1 ∧ 0 ≤ p0.toInt ∧ p0.toInt ≤ 3) ∨ (r_1.toInt = 0 ∧ (p0.toInt < 0 ∨ 3 < p0.toInt)) from by omega)⟩, by rw [ht]; exact hP9, va_K.moved hW.alike hK, hD9⟩, hS.F ht⟩) hS.2.2 dX12_isSlot_9
set_option maxHeartbeats 4000000 in
set_option maxRecDepth 100000 in
theorem c_X12_row (l : Launch) (D : va_G) (k : Nat → ClassId) (mo : Nat) (p0 : Int32) (p1 : Int32) (p2 : Int32) (v0 : Int32) (m1 : Nat) (m2 : Nat) (m3 : Nat) (m4 : Nat) (m5 : Nat) (v6 : Int32) (v7 : Int32) (v8 : Int32) (v9 : Int32) (v10 : Int32) (v11 : Int64) (v12 : Int32) (v13 : Int32) (v14 : Int32) (v15 : Int32) (m16 : Nat) (m17 : Nat) (m18 : Nat) (m19 : Nat) (m20 : Nat) (m21 : Nat) (m22 : Nat) (m23 : Nat) (v24 : Int32) (m25 : Nat) (m26 : Nat) (m27 : Nat) (m28 : Nat) (m29 : Nat) (v30 : Int32) (m31 : Nat) (m32 : Nat) (m33 : Nat) (v34 : Int32) (v35 : Int32) (v36 : Int32) (m37 : Nat) (m38 : Nat) (m39 : Nat) (m40 : Nat) (v41 : Int64) (f1 : Nat → Int32) (f2 : Nat → Int32) (f3 : Nat → Int64) (sz : Nat) (h_v6 : 0 ≤ v6.toInt ∧ v6.toInt ≤ 1000) (h_v24 : 0 ≤ v24.toInt ∧ v24.toInt ≤ 1023) (hp_f1_0 : PR 4 1 0 (-1) 3 f1) (hp_f2_0 : PR 4 1 0 0 60 f2) : Met l yX12_row (ww yX12_row cX12_row 5 (some .int)) ({ frames := 2, cells := 0, slots := 0, locals := 45 }) (Pre0 D k [(mo, .inr (12, [.int v0, .ref m1, .ref m2, .ref m3, .ref m4, .ref m5, .int v6, .int v7, .int v8, .int v9, .int v10, .long v11, .int v12, .int v13, .int v14, .int v15, .ref m16, .ref m17, .ref m18, .ref m19, .ref m20, .ref m21, .ref m22, .ref m23, .int v24, .ref m25, .ref m26, .ref m27, .ref m28, .ref m29, .int v30, .ref m31, .ref m32, .ref m33, .int v34, .int v35, .int v36, .ref m37, .ref m38, .ref m39, .ref m40, .long v41])), (m1, .inl (k 0, 4, .inl f1)), (m2, .inl (k 0, 4, .inl f2)), (m3, .inl (k 2, 240, .inr (.inl f3)))] sz [.ref mo, .int p0, .int p1, .int p2]) (va_Qi (fun (r : Int32) (u : Int32 × (Nat → Int32) × (Nat → Int32) × (Nat → Int64)) => match u with | (v0z, f1z, f2z, f3z) => ((-3) ≤ r.toInt ∧ r.toInt ≤ 0) ∧ (0 ≤ v0z.toInt ∧ v0z.toInt ≤ 0) ∧ (PR 4 1 0 (-1) 3 f1z) ∧ (PR 4 1 0 0 60 f2z) ∧ ((r.toInt = 0 ∧ 0 ≤ p0.toInt ∧ p0.toInt ≤ 3 ∧ 0 ≤ p1.toInt ∧ p1.toInt ≤ 3 ∧ p2.toInt ≤ 60 ∧ 0 ≤ p2.toInt) ∨ (r.toInt = -3 ∧ 0 ≤ p0.toInt ∧ p0.toInt ≤ 3 ∧ 0 ≤ p1.toInt ∧ p1.toInt ≤ 3 ∧ p2.toInt ≤ 60 ∧ p2.toInt < 0) ∨ (r.toInt = -2 ∧ ¬ (0 ≤ p0.toInt ∧ p0.toInt ≤ 3 ∧ 0 ≤ p1.toInt ∧ p1.toInt ≤ 3 ∧ p2.toInt ≤ 60))) ∧ (RJ r.toInt f1 f1z (upd f1 p0.toNatClampNeg p1) f2 f2z (upd f2 p0.toNatClampNeg p2))) (fun (u : Int32 × (Nat → Int32) × (Nat → Int32) × (Nat → Int64)) tZ => match u with | (v0z, f1z, f2z, f3z) => Bw D k (va_A [(mo, .inr (12, [.int v0, .ref m1, .ref m2, .ref m3, .ref m4, .ref m5, .int v6, .int v7, .int v8, .int v9, .int v10, .long v11, .int v12, .int v13, .int v14, .int v15, .ref m16, .ref m17, .ref m18, .ref m19, .ref m20, .ref m21, .ref m22, .ref m23, .int v24, .ref m25, .ref m26, .ref m27, .ref m28, .ref m29, .int v30, .ref m31, .ref m32, .ref m33, .int v34, .int v35, .int v36, .ref m37, .ref m38, .ref m39, .ref m40, .long v41])), (m1, .inl (k 0, 4, .inl f1)), (m2, .inl (k 0, 4, .inl f2)), (m3, .inl (k 2, 240, .inr (.inl f3)))] sz) [(mo, .inr (12, [.int v0z, .ref m1, .ref m2, .ref m3, .ref m4, .ref m5, .int v6, .int v7, .int v8, .int v9, .int v10, .long v11, .int v12, .int v13, .int v14, .int v15, .ref m16, .ref m17, .ref m18, .ref m19, .ref m20, .ref m21, .ref m22, .ref m23, .int v24, .ref m25, .ref m26, .ref m27, .ref m28, .ref m29, .int v30, .ref m31, .ref m32, .ref m33, .int v34, .int v35, .int v36, .ref m37, .ref m38, .ref m39, .ref m40, .long v41])), (m1, .inl (k 0, 4, .inl f1z)), (m2, .inl (k 0, 4, .inl f2z)), (m3, .inl (k 2, 240, .inr (.inl f3z)))] tZ) (va_A [(mo, .inr (12, [.int v0, .ref m1, .ref m2, .ref m3, .ref m4, .ref m5, .int v6, .int v7, .int v8, .int v9, .int v10, .long v11, .int v12, .int v13, .int v14, .int v15, .ref m16, .ref m17, .ref m18, .ref m19, .ref m20, .ref m21, .ref m22, .ref m23, .int v24, .ref m25, .ref m26, .ref m27, .ref m28, .ref m29, .int v30, .ref m31, .ref m32, .ref m33, .int v34, .int v35, .int v36, .ref m37, .ref m38, .ref m39, .ref m40, .long v41])), (m1, .inl (k 0, 4, .inl f1)), (m2, .inl (k 0, 4, .inl f2)), (m3, .inl (k 2, 240, .inr (.inl f3)))] sz)) 0 0 (va_A [(mo, .inr (12, [.int v0, .ref m1, .ref m2, .ref m3, .ref m4, .ref m5, .int v6, .int v7, .int v8, .int v9, .int v10, .long v11, .int v12, .int v13, .int v14, .int v15, .ref m16, .ref m17, .ref m18, .ref m19, .ref m20, .ref m21, .ref m22, .ref m23, .int v24, .ref m25, .ref m26, .ref m27, .ref m28, .ref m29, .int v30, .ref m31, .ref m32, .ref m33, .int v34, .int v35, .int v36, .ref m37, .ref m38, .ref m39, .ref m40, .long v41])), (m1, .inl (k 0, 4, .inl f1)), (m2, .inl (k 0, 4, .inl f2)), (m3, .inl (k 2, 240, .inr (.inl f3)))] sz) := by
  refine Met.ofW (cc := cX12_row) (maxL := 5) (ret := (some .int)) (by decide +kernel) rfl ?_
  intro p e s m args below meth c s₁ B hml hv
  obtain ⟨rfl, hsz, hP, hK, hD0, hN⟩ := hv
  have hx := B.exec
  have hb := B.bytes
  have hr := B.returns
  have hts : ∀ w ∈ TT, w.before _ s = true := fun w h => atoms_spec (ws := ww yX12_row cX12_row 5 (some .int)) B.pre w (List.mem_cons_of_mem _ h)
  have hown : s.vm.findClass RX12 = some m.cls := findClass_of_methodNamed B.named
  have hlocks := B.notSynchronized
  subst hsz
  have hD := hD0.self (sz := s.heap.size)
  generalize hAe : va_A [(mo, .inr (12, [.int v0, .ref m1, .ref m2, .ref m3, .ref m4, .ref m5, .int v6, .int v7, .int v8, .int v9, .int v10, .long v11, .int v12, .int v13, .int v14, .int v15, .ref m16, .ref m17, .ref m18, .ref m19, .ref m20, .ref m21, .ref m22, .ref m23, .int v24, .ref m25, .ref m26, .ref m27, .ref m28, .ref m29, .int v30, .ref m31, .ref m32, .ref m33, .int v34, .int v35, .int v36, .ref m37, .ref m38, .ref m39, .ref m40, .long v41])), (m1, .inl (k 0, 4, .inl f1)), (m2, .inl (k 0, 4, .inl f2)), (m3, .inl (k 2, 240, .inr (.inl f3)))] s.heap.size = A at hD ⊢
  have hA : ∀ q : Nat, s.heap.size ≤ q → A q := fun q h => by rw [← hAe]; exact Or.inr h
  have hS : va_S A s.heap s.heap [] := va_S.rf
  have hl := lv_entry ([.ref mo, .int p0, .int p1, .int p2]) (n := 5) (Nat.le_of_ble_eq_true rfl)
  rw [lg_entry_eq]
  generalize (lg_sl ([.ref mo, .int p0, .int p1, .int p2]) ++ List.replicate (5 - (lg_sl ([.ref mo, .int p0, .int p1, .int p2])).length) Slot.unset).toArray = ls at hl ⊢
  have hl : lv_has ls 5 [(0, .ref mo), (1, .int p0), (2, .int p1), (3, .int p2)] := hl
  refine lv_aload_n hx hb dX12_row_0 rfl (lv_at hl 0 rfl) ?_
  refine lv_iconst (v := 0) hx hb dX12_row_1 (by decide) ?_
  refine va_put (D := D) (ci := 12) (v := .int 0) (ty := tyX12 0) (C := RX12) (T := TX12) (N := 42) hx hb hts iT_X12 tyX12 tyX12_ok nmX12 hown hK hP hD hS 0 rfl rfl 0 (by decide) (hts _ tw_6_53) (fun _ h9 => h9) rfl (tyX12_ok 0 (by decide)) rfl rfl (Nat.le_of_ble_eq_true rfl) dX12_row_2 (fun H locs hP hD hS => ?_)
  have hP : va_P D vwCl [(mo, .inr (12, [.int 0, .ref m1, .ref m2, .ref m3, .ref m4, .ref m5, .int v6, .int v7, .int v8, .int v9, .int v10, .long v11, .int v12, .int v13, .int v14, .int v15, .ref m16, .ref m17, .ref m18, .ref m19, .ref m20, .ref m21, .ref m22, .ref m23, .int v24, .ref m25, .ref m26, .ref m27, .ref m28, .ref m29, .int v30, .ref m31, .ref m32, .ref m33, .int v34, .int v35, .int v36, .ref m37, .ref m38, .ref m39, .ref m40, .long v41])), (m1, .inl (k 0, 4, .inl f1)), (m2, .inl (k 0, 4, .inl f2)), (m3, .inl (k 2, 240, .inr (.inl f3)))] H := hP
  have hD : va_D A [(mo, .inr (12, [.int 0, .ref m1, .ref m2, .ref m3, .ref m4, .ref m5, .int v6, .int v7, .int v8, .int v9, .int v10, .long v11, .int v12, .int v13, .int v14, .int v15, .ref m16, .ref m17, .ref m18, .ref m19, .ref m20, .ref m21, .ref m22, .ref m23, .int v24, .ref m25, .ref m26, .ref m27, .ref m28, .ref m29, .int v30, .ref m31, .ref m32, .ref m33, .int v34, .int v35, .int v36, .ref m37, .ref m38, .ref m39, .ref m40, .long v41])), (m1, .inl (k 0, 4, .inl f1)), (m2, .inl (k 0, 4, .inl f2)), (m3, .inl (k 2, 240, .inr (.inl f3)))] := hD
  refine lv_iload_n hx hb dX12_row_5 rfl (lv_at hl 1 rfl) ?_
  obtain ⟨hPc, hDc, hFc⟩ := sub3 hP hD hS hA (ws' := []) [] (by decide +kernel) rfl
  refine va_calli (va_runS (As := [.int p0]) (rest := []) ⟨hx, hb, hml, hown, hts⟩ (c_X12_isSlot l D k p0 H.size) (va_cwS 1 hts (gS tw_6_184 tw_6_185 tw_1_13 tw_6_186) rfl rfl rfl hdS_X12_isSlot ⟨Nat.le_of_ble_eq_true rfl, Nat.le_of_ble_eq_true rfl⟩) (cz_S hK hPc hDc hN [.int p0]) rfl rfl hl.1 rfl (lv_room (Nat.le_of_ble_eq_true rfl)) dX12_row_6 ⟨Nat.le_of_ble_eq_true rfl, Nat.le_of_ble_eq_true rfl⟩) hS (fun q _ h => hFc q h) hFc (fun r_1 uZ tZ H1 locs ht hvm hw hB hz1 hk1 hS => ?_)
  obtain ⟨hP1, hK1, hD1⟩ := hB
  rw [ht] at hP1
  obtain ⟨hP, hD⟩ := va_join (wr := [(mo, .inr (12, [.int 0, .ref m1, .ref m2, .ref m3, .ref m4, .ref m5, .int v6, .int v7, .int v8, .int v9, .int v10, .long v11, .int v12, .int v13, .int v14, .int v15, .ref m16, .ref m17, .ref m18, .ref m19, .ref m20, .ref m21, .ref m22, .ref m23, .int v24, .ref m25, .ref m26, .ref m27, .ref m28, .ref m29, .int v30, .ref m31, .ref m32, .ref m33, .int v34, .int v35, .int v36, .ref m37, .ref m38, .ref m39, .ref m40, .long v41])), (m1, .inl (k 0, 4, .inl f1)), (m2, .inl (k 0, 4, .inl f2)), (m3, .inl (k 2, 240, .inr (.inl f3)))]) (w1 := []) hP hD [] [0, 1, 2, 3] rfl rfl (by decide +kernel) (by decide +kernel) hk1 hFc hP1 hD1
  clear hK1 hP1 hD1 hPc hDc hFc
  clear hk1 hz1 ht hvm
  have hP : va_P D vwCl [(mo, .inr (12, [.int 0, .ref m1, .ref m2, .ref m3, .ref m4, .ref m5, .int v6, .int v7, .int v8, .int v9, .int v10, .long v11, .int v12, .int v13, .int v14, .int v15, .ref m16, .ref m17, .ref m18, .ref m19, .ref m20, .ref m21, .ref m22, .ref m23, .int v24, .ref m25, .ref m26, .ref m27, .ref m28, .ref m29, .int v30, .ref m31, .ref m32, .ref m33, .int v34, .int v35, .int v36, .ref m37, .ref m38, .ref m39, .ref m40, .long v41])), (m1, .inl (k 0, 4, .inl f1)), (m2, .inl (k 0, 4, .inl f2)), (m3, .inl (k 2, 240, .inr (.inl f3)))] H1 := hP
  have hD : va_D A [(mo, .inr (12, [.int 0, .ref m1, .ref m2, .ref m3, .ref m4, .ref m5, .int v6, .int v7, .int v8, .int v9, .int v10, .long v11, .int v12, .int v13, .int v14, .int v15, .ref m16, .ref m17, .ref m18, .ref m19, .ref m20, .ref m21, .ref m22, .ref m23, .int v24, .ref m25, .ref m26, .ref m27, .ref m28, .ref m29, .int v30, .ref m31, .ref m32, .ref m33, .int v34, .int v35, .int v36, .ref m37, .ref m38, .ref m39, .ref m40, .long v41])), (m1, .inl (k 0, 4, .inl f1)), (m2, .inl (k 0, 4, .inl f2)), (m3, .inl (k 2, 240, .inr (.inl f3)))] := hD
  generalize H1 = H at hP hS ⊢
  have hw_2 : (0 ≤ r_1.toInt ∧ r_1.toInt ≤ 1) ∧ ((r_1.toInt = 1 ∧ 0 ≤ p0.toInt ∧ p0.toInt ≤ 3) ∨ (r_1.toInt = 0 ∧ (p0.toInt < 0 ∨ 3 < p0.toInt))) := hw
  obtain ⟨hw_3, hw_4⟩ := hw_2
  clear hw
  refine lv_if_eq (tgt := 30) hx hb dX12_row_9 (by decide) (fun h_5 => ?_) (fun h_5 => ?_)
  · skip
    have zh_5 : r_1.toInt = 0 := z_eq h_5
    refine lv_bipush (v := (-2)) hx hb dX12_row_30 (by decide) ?_
    obtain ⟨hP9, hD9⟩ := sub2 hP hD (ws' := [(mo, .inr (12, [.int 0, .ref m1, .ref m2, .ref m3, .ref m4, .ref m5, .int v6, .int v7, .int v8, .int v9, .int v10, .long v11, .int v12, .int v13, .int v14, .int v15, .ref m16, .ref m17, .ref m18, .ref m19, .ref m20, .ref m21, .ref m22, .ref m23, .int v24, .ref m25, .ref m26, .ref m27, .ref m28, .ref m29, .int v30, .ref m31, .ref m32, .ref m33, .int v34, .int v35, .int v36, .ref m37, .ref m38, .ref m39, .ref m40, .long v41])), (m1, .inl (k 0, 4, .inl f1)), (m2, .inl (k 0, 4, .inl f2)), (m3, .inl (k 2, 240, .inr (.inl f3)))]) [0, 1, 2, 3] (by decide +kernel) rfl
    exact W.iret (v := (-2)) hx hb hr (fun tZ ht hW => ⟨⟨(-2), (0, f1, f2, f3), rfl, ⟨(show (-3) ≤ (-2) ∧ (-2) ≤ 0 from by omega), (show 0 ≤ 0 ∧ 0 ≤ 0 from by omega), hp_f1_0, hp_f2_0, (show ((-2) = 0 ∧ 0 ≤ p0.toInt ∧ p0.toInt ≤ 3 ∧ 0 ≤ p1.toInt ∧ p1.toInt ≤ 3 ∧ p2.toInt ≤ 60 ∧ 0 ≤ p2.toInt) ∨ ((-2) = -3 ∧ 0 ≤ p0.toInt ∧ p0.toInt ≤ 3 ∧ 0 ≤ p1.toInt ∧ p1.toInt ≤ 3 ∧ p2.toInt ≤ 60 ∧ p2.toInt < 0) ∨ ((-2) = -2 ∧ ¬ (0 ≤ p0.toInt ∧ p0.toInt ≤ 3 ∧ 0 ≤ p1.toInt ∧ p1.toInt ≤ 3 ∧ p2.toInt ≤ 60)) from by omega), (Or.inl ⟨by decide, rfl, rfl⟩)⟩, by rw [ht]; exact hP9, va_K.moved hW.alike hK, hD9⟩, hS.F ht⟩) hS.2.2 dX12_row_32
  · skip
    have zh_5 : ¬ r_1.toInt = 0 := z_ne h_5
    refine lv_iload_n hx hb dX12_row_12 rfl (lv_at hl 2 rfl) ?_
    refine lv_i2l (v := p1.toInt64) hx hb dX12_row_13 rfl ?_
    refine lv_lconst (v := 0) hx hb dX12_row_14 (by decide) ?_
    refine lv_ldc2 (v := 3) hx hb hown (hts _ tw_6_187) dX12_row_15 ?_
    obtain ⟨hPc, hDc, hFc⟩ := sub3 hP hD hS hA (ws' := []) [] (by decide +kernel) rfl
    refine va_calli (va_runS (As := [.long p1.toInt64, .long 0, .long 3]) (rest := []) ⟨hx, hb, hml, hown, hts⟩ (c_X12_in l D k p1.toInt64 0 3 H.size) (va_cwS 3 hts (gS tw_6_188 tw_6_189 tw_1_13 tw_6_190) rfl rfl rfl hdS_X12_in ⟨Nat.le_of_ble_eq_true rfl, Nat.le_of_ble_eq_true rfl⟩) (cz_S hK hPc hDc hN [.long p1.toInt64, .long 0, .long 3]) rfl rfl hl.1 rfl (lv_room (Nat.le_of_ble_eq_true rfl)) dX12_row_18 ⟨Nat.le_of_ble_eq_true rfl, Nat.le_of_ble_eq_true rfl⟩) hS (fun q _ h => hFc q h) hFc (fun r_6 uZ tZ H1 locs ht hvm hw hB hz1 hk1 hS => ?_)
    obtain ⟨hP1, hK1, hD1⟩ := hB
    rw [ht] at hP1
    obtain ⟨hP, hD⟩ := va_join (wr := [(mo, .inr (12, [.int 0, .ref m1, .ref m2, .ref m3, .ref m4, .ref m5, .int v6, .int v7, .int v8, .int v9, .int v10, .long v11, .int v12, .int v13, .int v14, .int v15, .ref m16, .ref m17, .ref m18, .ref m19, .ref m20, .ref m21, .ref m22, .ref m23, .int v24, .ref m25, .ref m26, .ref m27, .ref m28, .ref m29, .int v30, .ref m31, .ref m32, .ref m33, .int v34, .int v35, .int v36, .ref m37, .ref m38, .ref m39, .ref m40, .long v41])), (m1, .inl (k 0, 4, .inl f1)), (m2, .inl (k 0, 4, .inl f2)), (m3, .inl (k 2, 240, .inr (.inl f3)))]) (w1 := []) hP hD [] [0, 1, 2, 3] rfl rfl (by decide +kernel) (by decide +kernel) hk1 hFc hP1 hD1
    clear hK1 hP1 hD1 hPc hDc hFc
    clear hk1 hz1 ht hvm
    have hP : va_P D vwCl [(mo, .inr (12, [.int 0, .ref m1, .ref m2, .ref m3, .ref m4, .ref m5, .int v6, .int v7, .int v8, .int v9, .int v10, .long v11, .int v12, .int v13, .int v14, .int v15, .ref m16, .ref m17, .ref m18, .ref m19, .ref m20, .ref m21, .ref m22, .ref m23, .int v24, .ref m25, .ref m26, .ref m27, .ref m28, .ref m29, .int v30, .ref m31, .ref m32, .ref m33, .int v34, .int v35, .int v36, .ref m37, .ref m38, .ref m39, .ref m40, .long v41])), (m1, .inl (k 0, 4, .inl f1)), (m2, .inl (k 0, 4, .inl f2)), (m3, .inl (k 2, 240, .inr (.inl f3)))] H1 := hP
    have hD : va_D A [(mo, .inr (12, [.int 0, .ref m1, .ref m2, .ref m3, .ref m4, .ref m5, .int v6, .int v7, .int v8, .int v9, .int v10, .long v11, .int v12, .int v13, .int v14, .int v15, .ref m16, .ref m17, .ref m18, .ref m19, .ref m20, .ref m21, .ref m22, .ref m23, .int v24, .ref m25, .ref m26, .ref m27, .ref m28, .ref m29, .int v30, .ref m31, .ref m32, .ref m33, .int v34, .int v35, .int v36, .ref m37, .ref m38, .ref m39, .ref m40, .long v41])), (m1, .inl (k 0, 4, .inl f1)), (m2, .inl (k 0, 4, .inl f2)), (m3, .inl (k 2, 240, .inr (.inl f3)))] := hD
    generalize H1 = H at hP hS ⊢
    have hw_7 : (0 ≤ r_6.toInt ∧ r_6.toInt ≤ 1) ∧ ((r_6.toInt = 1 ∧ 0 ≤ p1.toInt64.toInt ∧ p1.toInt64.toInt ≤ 3) ∨ (r_6.toInt = 0 ∧ (p1.toInt64.toInt < 0 ∨ 3 < p1.toInt64.toInt))) := hw
    obtain ⟨hw_8, hw_9⟩ := hw_7
    clear hw
    simp only [Int32.toInt_toInt64] at hw_8 hw_9
    refine lv_if_eq (tgt := 30) hx hb dX12_row_21 (by decide) (fun h_10 => ?_) (fun h_10 => ?_)
    · skip
      have zh_10 : r_6.toInt = 0 := z_eq h_10
      refine lv_bipush (v := (-2)) hx hb dX12_row_30 (by decide) ?_
      obtain ⟨hP9, hD9⟩ := sub2 hP hD (ws' := [(mo, .inr (12, [.int 0, .ref m1, .ref m2, .ref m3, .ref m4, .ref m5, .int v6, .int v7, .int v8, .int v9, .int v10, .long v11, .int v12, .int v13, .int v14, .int v15, .ref m16, .ref m17, .ref m18, .ref m19, .ref m20, .ref m21, .ref m22, .ref m23, .int v24, .ref m25, .ref m26, .ref m27, .ref m28, .ref m29, .int v30, .ref m31, .ref m32, .ref m33, .int v34, .int v35, .int v36, .ref m37, .ref m38, .ref m39, .ref m40, .long v41])), (m1, .inl (k 0, 4, .inl f1)), (m2, .inl (k 0, 4, .inl f2)), (m3, .inl (k 2, 240, .inr (.inl f3)))]) [0, 1, 2, 3] (by decide +kernel) rfl
      exact W.iret (v := (-2)) hx hb hr (fun tZ ht hW => ⟨⟨(-2), (0, f1, f2, f3), rfl, ⟨(show (-3) ≤ (-2) ∧ (-2) ≤ 0 from by omega), (show 0 ≤ 0 ∧ 0 ≤ 0 from by omega), hp_f1_0, hp_f2_0, (show ((-2) = 0 ∧ 0 ≤ p0.toInt ∧ p0.toInt ≤ 3 ∧ 0 ≤ p1.toInt ∧ p1.toInt ≤ 3 ∧ p2.toInt ≤ 60 ∧ 0 ≤ p2.toInt) ∨ ((-2) = -3 ∧ 0 ≤ p0.toInt ∧ p0.toInt ≤ 3 ∧ 0 ≤ p1.toInt ∧ p1.toInt ≤ 3 ∧ p2.toInt ≤ 60 ∧ p2.toInt < 0) ∨ ((-2) = -2 ∧ ¬ (0 ≤ p0.toInt ∧ p0.toInt ≤ 3 ∧ 0 ≤ p1.toInt ∧ p1.toInt ≤ 3 ∧ p2.toInt ≤ 60)) from by omega), (Or.inl ⟨by decide, rfl, rfl⟩)⟩, by rw [ht]; exact hP9, va_K.moved hW.alike hK, hD9⟩, hS.F ht⟩) hS.2.2 dX12_row_32
    · skip
      have zh_10 : ¬ r_6.toInt = 0 := z_ne h_10
      refine lv_iload_n hx hb dX12_row_24 rfl (lv_at hl 3 rfl) ?_
      refine lv_bipush (v := 60) hx hb dX12_row_25 (by decide) ?_
      refine lv_icmp_le (tgt := 33) hx hb dX12_row_27 (by decide) (fun h_11 => ?_) (fun h_11 => ?_)
      · skip
        have zh_11 : p2.toInt ≤ 60 := z_le h_11
        refine lv_iload_n hx hb dX12_row_33 rfl (lv_at hl 3 rfl) ?_
        refine lv_if_ge (tgt := 40) hx hb dX12_row_34 (by decide) (fun h_12 => ?_) (fun h_12 => ?_)
        · skip
          have zh_12 : 0 ≤ p2.toInt := z_le h_12
          refine lv_aload_n hx hb dX12_row_40 rfl (lv_at hl 0 rfl) ?_
          refine va_get (D := D) (ci := 12) (v := .ref m1) (C := RX12) (T := TX12) (N := 42) hx hb hts iT_X12 hown hK hP 0 rfl rfl 1 (by decide) (hts _ tw_6_54) (fun _ h9 => h9) rfl dX12_row_41 ?_
          refine lv_iload_n hx hb dX12_row_44 rfl (lv_at hl 1 rfl) ?_
          refine lv_iload_n hx hb dX12_row_45 rfl (lv_at hl 2 rfl) ?_
          refine va_iast hx hb hK hP hD hS 1 0 rfl rfl (z_in (by omega) (by omega)) dX12_row_46 (fun H locs hP hD hS => ?_)
          obtain ⟨g_13, eg_13⟩ : ∃ z : Nat → Int32, upd f1 p0.toNatClampNeg p1 = z := ⟨_, rfl⟩
          have hP : va_P D vwCl [(mo, .inr (12, [.int 0, .ref m1, .ref m2, .ref m3, .ref m4, .ref m5, .int v6, .int v7, .int v8, .int v9, .int v10, .long v11, .int v12, .int v13, .int v14, .int v15, .ref m16, .ref m17, .ref m18, .ref m19, .ref m20, .ref m21, .ref m22, .ref m23, .int v24, .ref m25, .ref m26, .ref m27, .ref m28, .ref m29, .int v30, .ref m31, .ref m32, .ref m33, .int v34, .int v35, .int v36, .ref m37, .ref m38, .ref m39, .ref m40, .long v41])), (m1, .inl (k 0, 4, .inl (upd f1 p0.toNatClampNeg p1))), (m2, .inl (k 0, 4, .inl f2)), (m3, .inl (k 2, 240, .inr (.inl f3)))] H := hP
          have hD : va_D A [(mo, .inr (12, [.int 0, .ref m1, .ref m2, .ref m3, .ref m4, .ref m5, .int v6, .int v7, .int v8, .int v9, .int v10, .long v11, .int v12, .int v13, .int v14, .int v15, .ref m16, .ref m17, .ref m18, .ref m19, .ref m20, .ref m21, .ref m22, .ref m23, .int v24, .ref m25, .ref m26, .ref m27, .ref m28, .ref m29, .int v30, .ref m31, .ref m32, .ref m33, .int v34, .int v35, .int v36, .ref m37, .ref m38, .ref m39, .ref m40, .long v41])), (m1, .inl (k 0, 4, .inl (upd f1 p0.toNatClampNeg p1))), (m2, .inl (k 0, 4, .inl f2)), (m3, .inl (k 2, 240, .inr (.inl f3)))] := hD
          rw [eg_13] at hP hD
          have hp_14 : PR 4 1 0 (-1) 3 g_13 := by rw [← eg_13]; exact PR.put hp_f1_0 ⟨by omega, by omega⟩
          refine lv_aload_n hx hb dX12_row_47 rfl (lv_at hl 0 rfl) ?_
          refine va_get (D := D) (ci := 12) (v := .ref m2) (C := RX12) (T := TX12) (N := 42) hx hb hts iT_X12 hown hK hP 0 rfl rfl 2 (by decide) (hts _ tw_6_55) (fun _ h9 => h9) rfl dX12_row_48 ?_
          refine lv_iload_n hx hb dX12_row_51 rfl (lv_at hl 1 rfl) ?_
          refine lv_iload_n hx hb dX12_row_52 rfl (lv_at hl 3 rfl) ?_
          refine va_iast hx hb hK hP hD hS 2 0 rfl rfl (z_in (by omega) (by omega)) dX12_row_53 (fun H locs hP hD hS => ?_)
          obtain ⟨g_15, eg_15⟩ : ∃ z : Nat → Int32, upd f2 p0.toNatClampNeg p2 = z := ⟨_, rfl⟩
          have hP : va_P D vwCl [(mo, .inr (12, [.int 0, .ref m1, .ref m2, .ref m3, .ref m4, .ref m5, .int v6, .int v7, .int v8, .int v9, .int v10, .long v11, .int v12, .int v13, .int v14, .int v15, .ref m16, .ref m17, .ref m18, .ref m19, .ref m20, .ref m21, .ref m22, .ref m23, .int v24, .ref m25, .ref m26, .ref m27, .ref m28, .ref m29, .int v30, .ref m31, .ref m32, .ref m33, .int v34, .int v35, .int v36, .ref m37, .ref m38, .ref m39, .ref m40, .long v41])), (m1, .inl (k 0, 4, .inl g_13)), (m2, .inl (k 0, 4, .inl (upd f2 p0.toNatClampNeg p2))), (m3, .inl (k 2, 240, .inr (.inl f3)))] H := hP
          have hD : va_D A [(mo, .inr (12, [.int 0, .ref m1, .ref m2, .ref m3, .ref m4, .ref m5, .int v6, .int v7, .int v8, .int v9, .int v10, .long v11, .int v12, .int v13, .int v14, .int v15, .ref m16, .ref m17, .ref m18, .ref m19, .ref m20, .ref m21, .ref m22, .ref m23, .int v24, .ref m25, .ref m26, .ref m27, .ref m28, .ref m29, .int v30, .ref m31, .ref m32, .ref m33, .int v34, .int v35, .int v36, .ref m37, .ref m38, .ref m39, .ref m40, .long v41])), (m1, .inl (k 0, 4, .inl g_13)), (m2, .inl (k 0, 4, .inl (upd f2 p0.toNatClampNeg p2))), (m3, .inl (k 2, 240, .inr (.inl f3)))] := hD
          rw [eg_15] at hP hD
          have hp_16 : PR 4 1 0 0 60 g_15 := by rw [← eg_15]; exact PR.put hp_f2_0 ⟨by omega, by omega⟩
          refine lv_iconst (v := 0) hx hb dX12_row_54 (by decide) ?_
          refine lv_istore (lv' := [(4, .int 0), (0, .ref mo), (1, .int p0), (2, .int p1), (3, .int p2)]) hx hb dX12_row_55 hl (by decide) rfl (fun ls hl => ?_)
          refine loop_r (Wg := fun H locs ls => W p l e _ s m _ below meth c H locs _ _ _ (F0 m 57 ls [])) (fun n9 H locs ls => ∃ (L57l4 : Int32) (L57a3 : Nat → Int64), n9 = (60 - L57l4.toInt).toNat ∧ (0 ≤ L57l4.toInt ∧ L57l4.toInt ≤ 60) ∧ va_P D vwCl [(mo, .inr (12, [.int 0, .ref m1, .ref m2, .ref m3, .ref m4, .ref m5, .int v6, .int v7, .int v8, .int v9, .int v10, .long v11, .int v12, .int v13, .int v14, .int v15, .ref m16, .ref m17, .ref m18, .ref m19, .ref m20, .ref m21, .ref m22, .ref m23, .int v24, .ref m25, .ref m26, .ref m27, .ref m28, .ref m29, .int v30, .ref m31, .ref m32, .ref m33, .int v34, .int v35, .int v36, .ref m37, .ref m38, .ref m39, .ref m40, .long v41])), (m1, .inl (k 0, 4, .inl g_13)), (m2, .inl (k 0, 4, .inl g_15)), (m3, .inl (k 2, 240, .inr (.inl L57a3)))] H ∧ va_D A [(mo, .inr (12, [.int 0, .ref m1, .ref m2, .ref m3, .ref m4, .ref m5, .int v6, .int v7, .int v8, .int v9, .int v10, .long v11, .int v12, .int v13, .int v14, .int v15, .ref m16, .ref m17, .ref m18, .ref m19, .ref m20, .ref m21, .ref m22, .ref m23, .int v24, .ref m25, .ref m26, .ref m27, .ref m28, .ref m29, .int v30, .ref m31, .ref m32, .ref m33, .int v34, .int v35, .int v36, .ref m37, .ref m38, .ref m39, .ref m40, .long v41])), (m1, .inl (k 0, 4, .inl g_13)), (m2, .inl (k 0, 4, .inl g_15)), (m3, .inl (k 2, 240, .inr (.inl L57a3)))] ∧ va_S A s.heap H locs ∧ lv_has ls 5 [(0, .ref mo), (1, .int p0), (2, .int p1), (3, .int p2), (4, .int L57l4)]) (fun n9 H locs ls hI ih_17 => ?_) _ _ _ _ ⟨0, f3, rfl, (show 0 ≤ 0 ∧ 0 ≤ 60 from by omega), hP.sub (ws' := [(mo, .inr (12, [.int 0, .ref m1, .ref m2, .ref m3, .ref m4, .ref m5, .int v6, .int v7, .int v8, .int v9, .int v10, .long v11, .int v12, .int v13, .int v14, .int v15, .ref m16, .ref m17, .ref m18, .ref m19, .ref m20, .ref m21, .ref m22, .ref m23, .int v24, .ref m25, .ref m26, .ref m27, .ref m28, .ref m29, .int v30, .ref m31, .ref m32, .ref m33, .int v34, .int v35, .int v36, .ref m37, .ref m38, .ref m39, .ref m40, .long v41])), (m1, .inl (k 0, 4, .inl g_13)), (m2, .inl (k 0, 4, .inl g_15)), (m3, .inl (k 2, 240, .inr (.inl f3)))]) [0, 1, 2, 3] rfl, hD.sub (ws' := [(mo, .inr (12, [.int 0, .ref m1, .ref m2, .ref m3, .ref m4, .ref m5, .int v6, .int v7, .int v8, .int v9, .int v10, .long v11, .int v12, .int v13, .int v14, .int v15, .ref m16, .ref m17, .ref m18, .ref m19, .ref m20, .ref m21, .ref m22, .ref m23, .int v24, .ref m25, .ref m26, .ref m27, .ref m28, .ref m29, .int v30, .ref m31, .ref m32, .ref m33, .int v34, .int v35, .int v36, .ref m37, .ref m38, .ref m39, .ref m40, .long v41])), (m1, .inl (k 0, 4, .inl g_13)), (m2, .inl (k 0, 4, .inl g_15)), (m3, .inl (k 2, 240, .inr (.inl f3)))]) [0, 1, 2, 3] (by decide +kernel) rfl, hS, lv_sub hl [1, 2, 3, 4, 0] rfl⟩
          clear hP hD hS hl
          obtain ⟨L57l4, L57a3, en_18, zL57l4, hP, hD, hS, hl⟩ := hI
          refine lv_iload hx hb dX12_row_57 (lv_at hl 4 rfl) ?_
          refine lv_iload_n hx hb dX12_row_59 rfl (lv_at hl 3 rfl) ?_
          refine lv_icmp_ge (tgt := 82) hx hb dX12_row_60 (by decide) (fun h_19 => ?_) (fun h_19 => ?_)
          · skip
            have zh_19 : p2.toInt ≤ L57l4.toInt := z_le h_19
            refine lv_iconst (v := 0) hx hb dX12_row_82 (by decide) ?_
            obtain ⟨hP9, hD9⟩ := sub2 hP hD (ws' := [(mo, .inr (12, [.int 0, .ref m1, .ref m2, .ref m3, .ref m4, .ref m5, .int v6, .int v7, .int v8, .int v9, .int v10, .long v11, .int v12, .int v13, .int v14, .int v15, .ref m16, .ref m17, .ref m18, .ref m19, .ref m20, .ref m21, .ref m22, .ref m23, .int v24, .ref m25, .ref m26, .ref m27, .ref m28, .ref m29, .int v30, .ref m31, .ref m32, .ref m33, .int v34, .int v35, .int v36, .ref m37, .ref m38, .ref m39, .ref m40, .long v41])), (m1, .inl (k 0, 4, .inl g_13)), (m2, .inl (k 0, 4, .inl g_15)), (m3, .inl (k 2, 240, .inr (.inl L57a3)))]) [0, 1, 2, 3] (by decide +kernel) rfl
            exact W.iret (v := 0) hx hb hr (fun tZ ht hW => ⟨⟨0, (0, g_13, g_15, L57a3), rfl, ⟨(show (-3) ≤ 0 ∧ 0 ≤ 0 from by omega), (show 0 ≤ 0 ∧ 0 ≤ 0 from by omega), hp_14, hp_16, (show (0 = 0 ∧ 0 ≤ p0.toInt ∧ p0.toInt ≤ 3 ∧ 0 ≤ p1.toInt ∧ p1.toInt ≤ 3 ∧ p2.toInt ≤ 60 ∧ 0 ≤ p2.toInt) ∨ (0 = -3 ∧ 0 ≤ p0.toInt ∧ p0.toInt ≤ 3 ∧ 0 ≤ p1.toInt ∧ p1.toInt ≤ 3 ∧ p2.toInt ≤ 60 ∧ p2.toInt < 0) ∨ (0 = -2 ∧ ¬ (0 ≤ p0.toInt ∧ p0.toInt ≤ 3 ∧ 0 ≤ p1.toInt ∧ p1.toInt ≤ 3 ∧ p2.toInt ≤ 60)) from by omega), (Or.inr ⟨rfl, (eg_13).symm, (eg_15).symm⟩)⟩, by rw [ht]; exact hP9, va_K.moved hW.alike hK, hD9⟩, hS.F ht⟩) hS.2.2 dX12_row_83
          · skip
            have zh_19 : L57l4.toInt < p2.toInt := z_nle h_19
            refine lv_aload_n hx hb dX12_row_63 rfl (lv_at hl 0 rfl) ?_
            refine va_get (D := D) (ci := 12) (v := .ref m3) (C := RX12) (T := TX12) (N := 42) hx hb hts iT_X12 hown hK hP 0 rfl rfl 3 (by decide) (hts _ tw_6_56) (fun _ h9 => h9) rfl dX12_row_64 ?_
            refine lv_bipush (v := 60) hx hb dX12_row_67 (by decide) ?_
            refine lv_iload_n hx hb dX12_row_69 rfl (lv_at hl 1 rfl) ?_
            refine lv_imul hx hb dX12_row_70 ?_
            refine lv_topi (fun x_20 ex_20 => ?_)
            have zx_20 : x_20.toInt = 60 * p0.toInt := by rw [ex_20]; exact z_mul rfl rfl (by omega) (by omega)
            refine lv_iload hx hb dX12_row_71 (lv_at hl 4 rfl) ?_
            refine lv_iadd hx hb dX12_row_73 ?_
            refine lv_topi (fun x_21 ex_21 => ?_)
            have zx_21 : x_21.toInt = x_20.toInt + L57l4.toInt := by rw [ex_21]; exact z_add rfl rfl (by omega) (by omega)
            refine lv_lconst (v := 0) hx hb dX12_row_74 (by decide) ?_
            refine va_last hx hb hK hP hD hS 3 2 rfl rfl (z_in (by omega) (by omega)) dX12_row_75 (fun H locs hP hD hS => ?_)
            obtain ⟨g_22, eg_22⟩ : ∃ z : Nat → Int64, vp_updL L57a3 x_21.toNatClampNeg 0 = z := ⟨_, rfl⟩
            have hP : va_P D vwCl [(mo, .inr (12, [.int 0, .ref m1, .ref m2, .ref m3, .ref m4, .ref m5, .int v6, .int v7, .int v8, .int v9, .int v10, .long v11, .int v12, .int v13, .int v14, .int v15, .ref m16, .ref m17, .ref m18, .ref m19, .ref m20, .ref m21, .ref m22, .ref m23, .int v24, .ref m25, .ref m26, .ref m27, .ref m28, .ref m29, .int v30, .ref m31, .ref m32, .ref m33, .int v34, .int v35, .int v36, .ref m37, .ref m38, .ref m39, .ref m40, .long v41])), (m1, .inl (k 0, 4, .inl g_13)), (m2, .inl (k 0, 4, .inl g_15)), (m3, .inl (k 2, 240, .inr (.inl (vp_updL L57a3 x_21.toNatClampNeg 0))))] H := hP
            have hD : va_D A [(mo, .inr (12, [.int 0, .ref m1, .ref m2, .ref m3, .ref m4, .ref m5, .int v6, .int v7, .int v8, .int v9, .int v10, .long v11, .int v12, .int v13, .int v14, .int v15, .ref m16, .ref m17, .ref m18, .ref m19, .ref m20, .ref m21, .ref m22, .ref m23, .int v24, .ref m25, .ref m26, .ref m27, .ref m28, .ref m29, .int v30, .ref m31, .ref m32, .ref m33, .int v34, .int v35, .int v36, .ref m37, .ref m38, .ref m39, .ref m40, .long v41])), (m1, .inl (k 0, 4, .inl g_13)), (m2, .inl (k 0, 4, .inl g_15)), (m3, .inl (k 2, 240, .inr (.inl (vp_updL L57a3 x_21.toNatClampNeg 0))))] := hD
            rw [eg_22] at hP hD
            obtain ⟨x_23, ex_23⟩ : ∃ y : Int32, y = L57l4 + 1 := ⟨_, rfl⟩
            have zx_23 : x_23.toInt = L57l4.toInt + 1 := by rw [ex_23]; exact z_add rfl rfl (by omega) (by omega)
            refine lv_iinc (v := x_23) (lv' := [(4, .int x_23), (0, .ref mo), (1, .int p0), (2, .int p1), (3, .int p2)]) hx hb dX12_row_76 hl (k := 4) rfl (by rw [ex_23]; rfl) (by decide) rfl (fun ls hl => ?_)
            refine lv_goto (tgt := 57) hx hb dX12_row_79 (by decide) ?_
            exact ih_17 _ _ _ _ (by omega) ⟨x_23, g_22, rfl, (show 0 ≤ x_23.toInt ∧ x_23.toInt ≤ 60 from by omega), hP.sub (ws' := [(mo, .inr (12, [.int 0, .ref m1, .ref m2, .ref m3, .ref m4, .ref m5, .int v6, .int v7, .int v8, .int v9, .int v10, .long v11, .int v12, .int v13, .int v14, .int v15, .ref m16, .ref m17, .ref m18, .ref m19, .ref m20, .ref m21, .ref m22, .ref m23, .int v24, .ref m25, .ref m26, .ref m27, .ref m28, .ref m29, .int v30, .ref m31, .ref m32, .ref m33, .int v34, .int v35, .int v36, .ref m37, .ref m38, .ref m39, .ref m40, .long v41])), (m1, .inl (k 0, 4, .inl g_13)), (m2, .inl (k 0, 4, .inl g_15)), (m3, .inl (k 2, 240, .inr (.inl g_22)))]) [0, 1, 2, 3] rfl, hD.sub (ws' := [(mo, .inr (12, [.int 0, .ref m1, .ref m2, .ref m3, .ref m4, .ref m5, .int v6, .int v7, .int v8, .int v9, .int v10, .long v11, .int v12, .int v13, .int v14, .int v15, .ref m16, .ref m17, .ref m18, .ref m19, .ref m20, .ref m21, .ref m22, .ref m23, .int v24, .ref m25, .ref m26, .ref m27, .ref m28, .ref m29, .int v30, .ref m31, .ref m32, .ref m33, .int v34, .int v35, .int v36, .ref m37, .ref m38, .ref m39, .ref m40, .long v41])), (m1, .inl (k 0, 4, .inl g_13)), (m2, .inl (k 0, 4, .inl g_15)), (m3, .inl (k 2, 240, .inr (.inl g_22)))]) [0, 1, 2, 3] (by decide +kernel) rfl, hS, lv_sub hl [1, 2, 3, 4, 0] rfl⟩
        · skip
          have zh_12 : p2.toInt < 0 := z_nle h_12
          refine lv_bipush (v := (-3)) hx hb dX12_row_37 (by decide) ?_
          obtain ⟨hP9, hD9⟩ := sub2 hP hD (ws' := [(mo, .inr (12, [.int 0, .ref m1, .ref m2, .ref m3, .ref m4, .ref m5, .int v6, .int v7, .int v8, .int v9, .int v10, .long v11, .int v12, .int v13, .int v14, .int v15, .ref m16, .ref m17, .ref m18, .ref m19, .ref m20, .ref m21, .ref m22, .ref m23, .int v24, .ref m25, .ref m26, .ref m27, .ref m28, .ref m29, .int v30, .ref m31, .ref m32, .ref m33, .int v34, .int v35, .int v36, .ref m37, .ref m38, .ref m39, .ref m40, .long v41])), (m1, .inl (k 0, 4, .inl f1)), (m2, .inl (k 0, 4, .inl f2)), (m3, .inl (k 2, 240, .inr (.inl f3)))]) [0, 1, 2, 3] (by decide +kernel) rfl
          exact W.iret (v := (-3)) hx hb hr (fun tZ ht hW => ⟨⟨(-3), (0, f1, f2, f3), rfl, ⟨(show (-3) ≤ (-3) ∧ (-3) ≤ 0 from by omega), (show 0 ≤ 0 ∧ 0 ≤ 0 from by omega), hp_f1_0, hp_f2_0, (show ((-3) = 0 ∧ 0 ≤ p0.toInt ∧ p0.toInt ≤ 3 ∧ 0 ≤ p1.toInt ∧ p1.toInt ≤ 3 ∧ p2.toInt ≤ 60 ∧ 0 ≤ p2.toInt) ∨ ((-3) = -3 ∧ 0 ≤ p0.toInt ∧ p0.toInt ≤ 3 ∧ 0 ≤ p1.toInt ∧ p1.toInt ≤ 3 ∧ p2.toInt ≤ 60 ∧ p2.toInt < 0) ∨ ((-3) = -2 ∧ ¬ (0 ≤ p0.toInt ∧ p0.toInt ≤ 3 ∧ 0 ≤ p1.toInt ∧ p1.toInt ≤ 3 ∧ p2.toInt ≤ 60)) from by omega), (Or.inl ⟨by decide, rfl, rfl⟩)⟩, by rw [ht]; exact hP9, va_K.moved hW.alike hK, hD9⟩, hS.F ht⟩) hS.2.2 dX12_row_39
      · skip
        have zh_11 : 60 < p2.toInt := z_nle h_11
        refine lv_bipush (v := (-2)) hx hb dX12_row_30 (by decide) ?_
        obtain ⟨hP9, hD9⟩ := sub2 hP hD (ws' := [(mo, .inr (12, [.int 0, .ref m1, .ref m2, .ref m3, .ref m4, .ref m5, .int v6, .int v7, .int v8, .int v9, .int v10, .long v11, .int v12, .int v13, .int v14, .int v15, .ref m16, .ref m17, .ref m18, .ref m19, .ref m20, .ref m21, .ref m22, .ref m23, .int v24, .ref m25, .ref m26, .ref m27, .ref m28, .ref m29, .int v30, .ref m31, .ref m32, .ref m33, .int v34, .int v35, .int v36, .ref m37, .ref m38, .ref m39, .ref m40, .long v41])), (m1, .inl (k 0, 4, .inl f1)), (m2, .inl (k 0, 4, .inl f2)), (m3, .inl (k 2, 240, .inr (.inl f3)))]) [0, 1, 2, 3] (by decide +kernel) rfl
        exact W.iret (v := (-2)) hx hb hr (fun tZ ht hW => ⟨⟨(-2), (0, f1, f2, f3), rfl, ⟨(show (-3) ≤ (-2) ∧ (-2) ≤ 0 from by omega), (show 0 ≤ 0 ∧ 0 ≤ 0 from by omega), hp_f1_0, hp_f2_0, (show ((-2) = 0 ∧ 0 ≤ p0.toInt ∧ p0.toInt ≤ 3 ∧ 0 ≤ p1.toInt ∧ p1.toInt ≤ 3 ∧ p2.toInt ≤ 60 ∧ 0 ≤ p2.toInt) ∨ ((-2) = -3 ∧ 0 ≤ p0.toInt ∧ p0.toInt ≤ 3 ∧ 0 ≤ p1.toInt ∧ p1.toInt ≤ 3 ∧ p2.toInt ≤ 60 ∧ p2.toInt < 0) ∨ ((-2) = -2 ∧ ¬ (0 ≤ p0.toInt ∧ p0.toInt ≤ 3 ∧ 0 ≤ p1.toInt ∧ p1.toInt ≤ 3 ∧ p2.toInt ≤ 60)) from by omega), (Or.inl ⟨by decide, rfl, rfl⟩)⟩, by rw [ht]; exact hP9, va_K.moved hW.alike hK, hD9⟩, hS.F ht⟩) hS.2.2 dX12_row_32
set_option maxHeartbeats 4000000 in
set_option maxRecDepth 100000 in
theorem c_X12_cut (l : Launch) (D : va_G) (k : Nat → ClassId) (p0 : Int64) (p1 : Int32) (sz : Nat) : Met l yX12_cut (ww yX12_cut cX12_cut 3 (some .long)) ({ frames := 0, cells := 0, slots := 0, locals := 0 }) (Pre0 D k [] sz [.long p0, .int p1]) (va_Ql (fun (r : Int64) (_ : Unit) => True) (fun (_ : Unit) tZ => Bw D k (va_A [] sz) [] tZ) (va_A [] sz)) 0 0 (va_A [] sz) := by
  refine Met.ofW (cc := cX12_cut) (maxL := 3) (ret := (some .long)) (by decide +kernel) rfl ?_
  intro p e s m args below meth c s₁ B hml hv
  obtain ⟨rfl, hsz, hP, hK, hD0, hN⟩ := hv
  have hx := B.exec
  have hb := B.bytes
  have hr := B.returns
  have hts : ∀ w ∈ TT, w.before _ s = true := fun w h => atoms_spec (ws := ww yX12_cut cX12_cut 3 (some .long)) B.pre w (List.mem_cons_of_mem _ h)
  have hown : s.vm.findClass RX12 = some m.cls := findClass_of_methodNamed B.named
  have hlocks := B.notSynchronized
  subst hsz
  have hD := hD0.self (sz := s.heap.size)
  generalize hAe : va_A [] s.heap.size = A at hD ⊢
  have hA : ∀ q : Nat, s.heap.size ≤ q → A q := fun q h => by rw [← hAe]; exact Or.inr h
  have hS : va_S A s.heap s.heap [] := va_S.rf
  have hl := lv_entry ([.long p0, .int p1]) (n := 3) (Nat.le_of_ble_eq_true rfl)
  rw [lg_entry_eq]
  generalize (lg_sl ([.long p0, .int p1]) ++ List.replicate (3 - (lg_sl ([.long p0, .int p1])).length) Slot.unset).toArray = ls at hl ⊢
  have hl : lv_has ls 3 [(0, .long p0), (2, .int p1)] := hl
  refine lv_iload_n hx hb dX12_cut_0 rfl (lv_at hl 1 rfl) ?_
  refine lv_if_ne (tgt := 11) hx hb dX12_cut_1 (by decide) (fun h_1 => ?_) (fun h_1 => ?_)
  · skip
    have zh_1 : ¬ p1.toInt = 0 := z_ne h_1
    refine lv_iload_n hx hb dX12_cut_11 rfl (lv_at hl 1 rfl) ?_
    refine lv_iconst (v := 1) hx hb dX12_cut_12 (by decide) ?_
    refine lv_icmp_ne (tgt := 23) hx hb dX12_cut_13 (by decide) (fun h_2 => ?_) (fun h_2 => ?_)
    · skip
      have zh_2 : ¬ p1.toInt = 1 := z_ne h_2
      refine lv_iload_n hx hb dX12_cut_23 rfl (lv_at hl 1 rfl) ?_
      refine lv_iconst (v := 2) hx hb dX12_cut_24 (by decide) ?_
      refine lv_icmp_ne (tgt := 34) hx hb dX12_cut_25 (by decide) (fun h_3 => ?_) (fun h_3 => ?_)
      · skip
        have zh_3 : ¬ p1.toInt = 2 := z_ne h_3
        refine lv_lload_n hx hb dX12_cut_34 rfl (lv_at hl 0 rfl) ?_
        obtain ⟨hP9, hD9⟩ := sub2 hP hD (ws' := []) [] (by decide +kernel) rfl
        exact W.lret (v := p0) hx hb hr (fun tZ ht hW => ⟨⟨p0, (), rfl, trivial, by rw [ht]; exact hP9, va_K.moved hW.alike hK, hD9⟩, hS.F ht⟩) hS.2.2 dX12_cut_35
      · skip
        have zh_3 : p1.toInt = 2 := z_eq h_3
        refine lv_lload_n hx hb dX12_cut_28 rfl (lv_at hl 0 rfl) ?_
        refine lv_l2i (v := p0.toInt32) hx hb dX12_cut_29 rfl ?_
        refine lv_topi (fun x_4 ex_4 => ?_)
        refine lv_i2l (v := x_4.toInt64) hx hb dX12_cut_30 rfl ?_
        refine lv_goto (tgt := 35) hx hb dX12_cut_31 (by decide) ?_
        obtain ⟨hP9, hD9⟩ := sub2 hP hD (ws' := []) [] (by decide +kernel) rfl
        exact W.lret (v := x_4.toInt64) hx hb hr (fun tZ ht hW => ⟨⟨x_4.toInt64, (), rfl, trivial, by rw [ht]; exact hP9, va_K.moved hW.alike hK, hD9⟩, hS.F ht⟩) hS.2.2 dX12_cut_35
    · skip
      have zh_2 : p1.toInt = 1 := z_eq h_2
      refine lv_lload_n hx hb dX12_cut_16 rfl (lv_at hl 0 rfl) ?_
      refine lv_l2i (v := p0.toInt32) hx hb dX12_cut_17 rfl ?_
      refine lv_topi (fun x_5 ex_5 => ?_)
      refine lv_i2s (v := x_5.toInt16.toInt32) hx hb dX12_cut_18 rfl ?_
      refine lv_topi (fun x_6 ex_6 => ?_)
      refine lv_i2l (v := x_6.toInt64) hx hb dX12_cut_19 rfl ?_
      refine lv_goto (tgt := 35) hx hb dX12_cut_20 (by decide) ?_
      obtain ⟨hP9, hD9⟩ := sub2 hP hD (ws' := []) [] (by decide +kernel) rfl
      exact W.lret (v := x_6.toInt64) hx hb hr (fun tZ ht hW => ⟨⟨x_6.toInt64, (), rfl, trivial, by rw [ht]; exact hP9, va_K.moved hW.alike hK, hD9⟩, hS.F ht⟩) hS.2.2 dX12_cut_35
  · skip
    have zh_1 : p1.toInt = 0 := z_eq h_1
    refine lv_lload_n hx hb dX12_cut_4 rfl (lv_at hl 0 rfl) ?_
    refine lv_l2i (v := p0.toInt32) hx hb dX12_cut_5 rfl ?_
    refine lv_topi (fun x_7 ex_7 => ?_)
    refine lv_i2b (v := x_7.toInt8.toInt32) hx hb dX12_cut_6 rfl ?_
    refine lv_i2l (v := x_7.toInt8.toInt32.toInt64) hx hb dX12_cut_7 rfl ?_
    refine lv_goto (tgt := 35) hx hb dX12_cut_8 (by decide) ?_
    obtain ⟨hP9, hD9⟩ := sub2 hP hD (ws' := []) [] (by decide +kernel) rfl
    exact W.lret (v := x_7.toInt8.toInt32.toInt64) hx hb hr (fun tZ ht hW => ⟨⟨x_7.toInt8.toInt32.toInt64, (), rfl, trivial, by rw [ht]; exact hP9, va_K.moved hW.alike hK, hD9⟩, hS.F ht⟩) hS.2.2 dX12_cut_35
set_option maxHeartbeats 4000000 in
set_option maxRecDepth 100000 in
theorem c_X12_write (l : Launch) (D : va_G) (k : Nat → ClassId) (mo : Nat) (p0 : Int32) (p1 : Int32) (p2 : Int64) (v0 : Int32) (m1 : Nat) (m2 : Nat) (m3 : Nat) (m4 : Nat) (m5 : Nat) (v6 : Int32) (v7 : Int32) (v8 : Int32) (v9 : Int32) (v10 : Int32) (v11 : Int64) (v12 : Int32) (v13 : Int32) (v14 : Int32) (v15 : Int32) (m16 : Nat) (m17 : Nat) (m18 : Nat) (m19 : Nat) (m20 : Nat) (m21 : Nat) (m22 : Nat) (m23 : Nat) (v24 : Int32) (m25 : Nat) (m26 : Nat) (m27 : Nat) (m28 : Nat) (m29 : Nat) (v30 : Int32) (m31 : Nat) (m32 : Nat) (m33 : Nat) (v34 : Int32) (v35 : Int32) (v36 : Int32) (m37 : Nat) (m38 : Nat) (m39 : Nat) (m40 : Nat) (v41 : Int64) (f1 : Nat → Int32) (f2 : Nat → Int32) (f3 : Nat → Int64) (sz : Nat) (h_v6 : 0 ≤ v6.toInt ∧ v6.toInt ≤ 1000) (h_v24 : 0 ≤ v24.toInt ∧ v24.toInt ≤ 1023) (hp_f1_0 : PR 4 1 0 (-1) 3 f1) (hp_f2_0 : PR 4 1 0 0 60 f2) : Met l yX12_write (ww yX12_write cX12_write 5 (some .int)) ({ frames := 2, cells := 0, slots := 0, locals := 45 }) (Pre0 D k [(mo, .inr (12, [.int v0, .ref m1, .ref m2, .ref m3, .ref m4, .ref m5, .int v6, .int v7, .int v8, .int v9, .int v10, .long v11, .int v12, .int v13, .int v14, .int v15, .ref m16, .ref m17, .ref m18, .ref m19, .ref m20, .ref m21, .ref m22, .ref m23, .int v24, .ref m25, .ref m26, .ref m27, .ref m28, .ref m29, .int v30, .ref m31, .ref m32, .ref m33, .int v34, .int v35, .int v36, .ref m37, .ref m38, .ref m39, .ref m40, .long v41])), (m1, .inl (k 0, 4, .inl f1)), (m2, .inl (k 0, 4, .inl f2)), (m3, .inl (k 2, 240, .inr (.inl f3)))] sz [.ref mo, .int p0, .int p1, .long p2]) (va_Qi (fun (r : Int32) (u : Int32 × (Nat → Int64)) => match u with | (v0z, f3z) => ((-7) ≤ r.toInt ∧ r.toInt ≤ 0) ∧ (0 ≤ v0z.toInt ∧ v0z.toInt ≤ 0)) (fun (u : Int32 × (Nat → Int64)) tZ => match u with | (v0z, f3z) => Bw D k (va_A [(mo, .inr (12, [.int v0, .ref m1, .ref m2, .ref m3, .ref m4, .ref m5, .int v6, .int v7, .int v8, .int v9, .int v10, .long v11, .int v12, .int v13, .int v14, .int v15, .ref m16, .ref m17, .ref m18, .ref m19, .ref m20, .ref m21, .ref m22, .ref m23, .int v24, .ref m25, .ref m26, .ref m27, .ref m28, .ref m29, .int v30, .ref m31, .ref m32, .ref m33, .int v34, .int v35, .int v36, .ref m37, .ref m38, .ref m39, .ref m40, .long v41])), (m1, .inl (k 0, 4, .inl f1)), (m2, .inl (k 0, 4, .inl f2)), (m3, .inl (k 2, 240, .inr (.inl f3)))] sz) [(mo, .inr (12, [.int v0z, .ref m1, .ref m2, .ref m3, .ref m4, .ref m5, .int v6, .int v7, .int v8, .int v9, .int v10, .long v11, .int v12, .int v13, .int v14, .int v15, .ref m16, .ref m17, .ref m18, .ref m19, .ref m20, .ref m21, .ref m22, .ref m23, .int v24, .ref m25, .ref m26, .ref m27, .ref m28, .ref m29, .int v30, .ref m31, .ref m32, .ref m33, .int v34, .int v35, .int v36, .ref m37, .ref m38, .ref m39, .ref m40, .long v41])), (m1, .inl (k 0, 4, .inl f1)), (m2, .inl (k 0, 4, .inl f2)), (m3, .inl (k 2, 240, .inr (.inl f3z)))] tZ) (va_A [(mo, .inr (12, [.int v0, .ref m1, .ref m2, .ref m3, .ref m4, .ref m5, .int v6, .int v7, .int v8, .int v9, .int v10, .long v11, .int v12, .int v13, .int v14, .int v15, .ref m16, .ref m17, .ref m18, .ref m19, .ref m20, .ref m21, .ref m22, .ref m23, .int v24, .ref m25, .ref m26, .ref m27, .ref m28, .ref m29, .int v30, .ref m31, .ref m32, .ref m33, .int v34, .int v35, .int v36, .ref m37, .ref m38, .ref m39, .ref m40, .long v41])), (m1, .inl (k 0, 4, .inl f1)), (m2, .inl (k 0, 4, .inl f2)), (m3, .inl (k 2, 240, .inr (.inl f3)))] sz)) 0 0 (va_A [(mo, .inr (12, [.int v0, .ref m1, .ref m2, .ref m3, .ref m4, .ref m5, .int v6, .int v7, .int v8, .int v9, .int v10, .long v11, .int v12, .int v13, .int v14, .int v15, .ref m16, .ref m17, .ref m18, .ref m19, .ref m20, .ref m21, .ref m22, .ref m23, .int v24, .ref m25, .ref m26, .ref m27, .ref m28, .ref m29, .int v30, .ref m31, .ref m32, .ref m33, .int v34, .int v35, .int v36, .ref m37, .ref m38, .ref m39, .ref m40, .long v41])), (m1, .inl (k 0, 4, .inl f1)), (m2, .inl (k 0, 4, .inl f2)), (m3, .inl (k 2, 240, .inr (.inl f3)))] sz) := by
  refine Met.ofW (cc := cX12_write) (maxL := 5) (ret := (some .int)) (by decide +kernel) rfl ?_
  intro p e s m args below meth c s₁ B hml hv
  obtain ⟨rfl, hsz, hP, hK, hD0, hN⟩ := hv
  have hx := B.exec
  have hb := B.bytes
  have hr := B.returns
  have hts : ∀ w ∈ TT, w.before _ s = true := fun w h => atoms_spec (ws := ww yX12_write cX12_write 5 (some .int)) B.pre w (List.mem_cons_of_mem _ h)
  have hown : s.vm.findClass RX12 = some m.cls := findClass_of_methodNamed B.named
  have hlocks := B.notSynchronized
  subst hsz
  have hD := hD0.self (sz := s.heap.size)
  generalize hAe : va_A [(mo, .inr (12, [.int v0, .ref m1, .ref m2, .ref m3, .ref m4, .ref m5, .int v6, .int v7, .int v8, .int v9, .int v10, .long v11, .int v12, .int v13, .int v14, .int v15, .ref m16, .ref m17, .ref m18, .ref m19, .ref m20, .ref m21, .ref m22, .ref m23, .int v24, .ref m25, .ref m26, .ref m27, .ref m28, .ref m29, .int v30, .ref m31, .ref m32, .ref m33, .int v34, .int v35, .int v36, .ref m37, .ref m38, .ref m39, .ref m40, .long v41])), (m1, .inl (k 0, 4, .inl f1)), (m2, .inl (k 0, 4, .inl f2)), (m3, .inl (k 2, 240, .inr (.inl f3)))] s.heap.size = A at hD ⊢
  have hA : ∀ q : Nat, s.heap.size ≤ q → A q := fun q h => by rw [← hAe]; exact Or.inr h
  have hS : va_S A s.heap s.heap [] := va_S.rf
  have hl := lv_entry ([.ref mo, .int p0, .int p1, .long p2]) (n := 5) (Nat.le_of_ble_eq_true rfl)
  rw [lg_entry_eq]
  generalize (lg_sl ([.ref mo, .int p0, .int p1, .long p2]) ++ List.replicate (5 - (lg_sl ([.ref mo, .int p0, .int p1, .long p2])).length) Slot.unset).toArray = ls at hl ⊢
  have hl : lv_has ls 5 [(0, .ref mo), (1, .int p0), (2, .int p1), (3, .long p2)] := hl
  refine lv_aload_n hx hb dX12_write_0 rfl (lv_at hl 0 rfl) ?_
  refine lv_iconst (v := 0) hx hb dX12_write_1 (by decide) ?_
  refine va_put (D := D) (ci := 12) (v := .int 0) (ty := tyX12 0) (C := RX12) (T := TX12) (N := 42) hx hb hts iT_X12 tyX12 tyX12_ok nmX12 hown hK hP hD hS 0 rfl rfl 0 (by decide) (hts _ tw_6_53) (fun _ h9 => h9) rfl (tyX12_ok 0 (by decide)) rfl rfl (Nat.le_of_ble_eq_true rfl) dX12_write_2 (fun H locs hP hD hS => ?_)
  have hP : va_P D vwCl [(mo, .inr (12, [.int 0, .ref m1, .ref m2, .ref m3, .ref m4, .ref m5, .int v6, .int v7, .int v8, .int v9, .int v10, .long v11, .int v12, .int v13, .int v14, .int v15, .ref m16, .ref m17, .ref m18, .ref m19, .ref m20, .ref m21, .ref m22, .ref m23, .int v24, .ref m25, .ref m26, .ref m27, .ref m28, .ref m29, .int v30, .ref m31, .ref m32, .ref m33, .int v34, .int v35, .int v36, .ref m37, .ref m38, .ref m39, .ref m40, .long v41])), (m1, .inl (k 0, 4, .inl f1)), (m2, .inl (k 0, 4, .inl f2)), (m3, .inl (k 2, 240, .inr (.inl f3)))] H := hP
  have hD : va_D A [(mo, .inr (12, [.int 0, .ref m1, .ref m2, .ref m3, .ref m4, .ref m5, .int v6, .int v7, .int v8, .int v9, .int v10, .long v11, .int v12, .int v13, .int v14, .int v15, .ref m16, .ref m17, .ref m18, .ref m19, .ref m20, .ref m21, .ref m22, .ref m23, .int v24, .ref m25, .ref m26, .ref m27, .ref m28, .ref m29, .int v30, .ref m31, .ref m32, .ref m33, .int v34, .int v35, .int v36, .ref m37, .ref m38, .ref m39, .ref m40, .long v41])), (m1, .inl (k 0, 4, .inl f1)), (m2, .inl (k 0, 4, .inl f2)), (m3, .inl (k 2, 240, .inr (.inl f3)))] := hD
  refine lv_iload_n hx hb dX12_write_5 rfl (lv_at hl 1 rfl) ?_
  obtain ⟨hPc, hDc, hFc⟩ := sub3 hP hD hS hA (ws' := []) [] (by decide +kernel) rfl
  refine va_calli (va_runS (As := [.int p0]) (rest := []) ⟨hx, hb, hml, hown, hts⟩ (c_X12_isSlot l D k p0 H.size) (va_cwS 1 hts (gS tw_6_184 tw_6_185 tw_1_13 tw_6_186) rfl rfl rfl hdS_X12_isSlot ⟨Nat.le_of_ble_eq_true rfl, Nat.le_of_ble_eq_true rfl⟩) (cz_S hK hPc hDc hN [.int p0]) rfl rfl hl.1 rfl (lv_room (Nat.le_of_ble_eq_true rfl)) dX12_write_6 ⟨Nat.le_of_ble_eq_true rfl, Nat.le_of_ble_eq_true rfl⟩) hS (fun q _ h => hFc q h) hFc (fun r_1 uZ tZ H1 locs ht hvm hw hB hz1 hk1 hS => ?_)
  obtain ⟨hP1, hK1, hD1⟩ := hB
  rw [ht] at hP1
  obtain ⟨hP, hD⟩ := va_join (wr := [(mo, .inr (12, [.int 0, .ref m1, .ref m2, .ref m3, .ref m4, .ref m5, .int v6, .int v7, .int v8, .int v9, .int v10, .long v11, .int v12, .int v13, .int v14, .int v15, .ref m16, .ref m17, .ref m18, .ref m19, .ref m20, .ref m21, .ref m22, .ref m23, .int v24, .ref m25, .ref m26, .ref m27, .ref m28, .ref m29, .int v30, .ref m31, .ref m32, .ref m33, .int v34, .int v35, .int v36, .ref m37, .ref m38, .ref m39, .ref m40, .long v41])), (m1, .inl (k 0, 4, .inl f1)), (m2, .inl (k 0, 4, .inl f2)), (m3, .inl (k 2, 240, .inr (.inl f3)))]) (w1 := []) hP hD [] [0, 1, 2, 3] rfl rfl (by decide +kernel) (by decide +kernel) hk1 hFc hP1 hD1
  clear hK1 hP1 hD1 hPc hDc hFc
  clear hk1 hz1 ht hvm
  have hP : va_P D vwCl [(mo, .inr (12, [.int 0, .ref m1, .ref m2, .ref m3, .ref m4, .ref m5, .int v6, .int v7, .int v8, .int v9, .int v10, .long v11, .int v12, .int v13, .int v14, .int v15, .ref m16, .ref m17, .ref m18, .ref m19, .ref m20, .ref m21, .ref m22, .ref m23, .int v24, .ref m25, .ref m26, .ref m27, .ref m28, .ref m29, .int v30, .ref m31, .ref m32, .ref m33, .int v34, .int v35, .int v36, .ref m37, .ref m38, .ref m39, .ref m40, .long v41])), (m1, .inl (k 0, 4, .inl f1)), (m2, .inl (k 0, 4, .inl f2)), (m3, .inl (k 2, 240, .inr (.inl f3)))] H1 := hP
  have hD : va_D A [(mo, .inr (12, [.int 0, .ref m1, .ref m2, .ref m3, .ref m4, .ref m5, .int v6, .int v7, .int v8, .int v9, .int v10, .long v11, .int v12, .int v13, .int v14, .int v15, .ref m16, .ref m17, .ref m18, .ref m19, .ref m20, .ref m21, .ref m22, .ref m23, .int v24, .ref m25, .ref m26, .ref m27, .ref m28, .ref m29, .int v30, .ref m31, .ref m32, .ref m33, .int v34, .int v35, .int v36, .ref m37, .ref m38, .ref m39, .ref m40, .long v41])), (m1, .inl (k 0, 4, .inl f1)), (m2, .inl (k 0, 4, .inl f2)), (m3, .inl (k 2, 240, .inr (.inl f3)))] := hD
  generalize H1 = H at hP hS ⊢
  have hw_2 : (0 ≤ r_1.toInt ∧ r_1.toInt ≤ 1) ∧ ((r_1.toInt = 1 ∧ 0 ≤ p0.toInt ∧ p0.toInt ≤ 3) ∨ (r_1.toInt = 0 ∧ (p0.toInt < 0 ∨ 3 < p0.toInt))) := hw
  obtain ⟨hw_3, hw_4⟩ := hw_2
  clear hw
  refine lv_if_ne (tgt := 15) hx hb dX12_write_9 (by decide) (fun h_5 => ?_) (fun h_5 => ?_)
  · skip
    have zh_5 : ¬ r_1.toInt = 0 := z_ne h_5
    refine lv_aload_n hx hb dX12_write_15 rfl (lv_at hl 0 rfl) ?_
    refine va_get (D := D) (ci := 12) (v := .ref m1) (C := RX12) (T := TX12) (N := 42) hx hb hts iT_X12 hown hK hP 0 rfl rfl 1 (by decide) (hts _ tw_6_54) (fun _ h9 => h9) rfl dX12_write_16 ?_
    refine lv_iload_n hx hb dX12_write_19 rfl (lv_at hl 1 rfl) ?_
    refine va_iald hx hb hK hP 1 0 rfl rfl (z_in (by omega) (by omega)) dX12_write_20 ?_
    refine lv_topi (fun x_6 ex_6 => ?_)
    have zx_6r0 : (-1) ≤ x_6.toInt ∧ x_6.toInt ≤ 3 := by rw [ex_6]; exact PR.ld hp_f1_0 (by omega) (by omega) (by omega)
    refine lv_iconst (v := (-1)) hx hb dX12_write_21 (by decide) ?_
    refine lv_icmp_ne (tgt := 28) hx hb dX12_write_22 (by decide) (fun h_7 => ?_) (fun h_7 => ?_)
    · skip
      have zh_7 : ¬ x_6.toInt = (-1) := z_ne h_7
      refine lv_iload_n hx hb dX12_write_28 rfl (lv_at hl 2 rfl) ?_
      refine lv_i2l (v := p1.toInt64) hx hb dX12_write_29 rfl ?_
      refine lv_lconst (v := 0) hx hb dX12_write_30 (by decide) ?_
      refine lv_aload_n hx hb dX12_write_31 rfl (lv_at hl 0 rfl) ?_
      refine va_get (D := D) (ci := 12) (v := .ref m2) (C := RX12) (T := TX12) (N := 42) hx hb hts iT_X12 hown hK hP 0 rfl rfl 2 (by decide) (hts _ tw_6_55) (fun _ h9 => h9) rfl dX12_write_32 ?_
      refine lv_iload_n hx hb dX12_write_35 rfl (lv_at hl 1 rfl) ?_
      refine va_iald hx hb hK hP 2 0 rfl rfl (z_in (by omega) (by omega)) dX12_write_36 ?_
      refine lv_topi (fun x_8 ex_8 => ?_)
      have zx_8r0 : 0 ≤ x_8.toInt ∧ x_8.toInt ≤ 60 := by rw [ex_8]; exact PR.ld hp_f2_0 (by omega) (by omega) (by omega)
      refine lv_iconst (v := 1) hx hb dX12_write_37 (by decide) ?_
      refine lv_isub hx hb dX12_write_38 ?_
      refine lv_topi (fun x_9 ex_9 => ?_)
      have zx_9 : x_9.toInt = x_8.toInt - 1 := by rw [ex_9]; exact z_sub rfl rfl (by omega) (by omega)
      refine lv_i2l (v := x_9.toInt64) hx hb dX12_write_39 rfl ?_
      obtain ⟨hPc, hDc, hFc⟩ := sub3 hP hD hS hA (ws' := []) [] (by decide +kernel) rfl
      refine va_calli (va_runS (As := [.long p1.toInt64, .long 0, .long x_9.toInt64]) (rest := []) ⟨hx, hb, hml, hown, hts⟩ (c_X12_in l D k p1.toInt64 0 x_9.toInt64 H.size) (va_cwS 3 hts (gS tw_6_188 tw_6_189 tw_1_13 tw_6_190) rfl rfl rfl hdS_X12_in ⟨Nat.le_of_ble_eq_true rfl, Nat.le_of_ble_eq_true rfl⟩) (cz_S hK hPc hDc hN [.long p1.toInt64, .long 0, .long x_9.toInt64]) rfl rfl hl.1 rfl (lv_room (Nat.le_of_ble_eq_true rfl)) dX12_write_40 ⟨Nat.le_of_ble_eq_true rfl, Nat.le_of_ble_eq_true rfl⟩) hS (fun q _ h => hFc q h) hFc (fun r_10 uZ tZ H1 locs ht hvm hw hB hz1 hk1 hS => ?_)
      obtain ⟨hP1, hK1, hD1⟩ := hB
      rw [ht] at hP1
      obtain ⟨hP, hD⟩ := va_join (wr := [(mo, .inr (12, [.int 0, .ref m1, .ref m2, .ref m3, .ref m4, .ref m5, .int v6, .int v7, .int v8, .int v9, .int v10, .long v11, .int v12, .int v13, .int v14, .int v15, .ref m16, .ref m17, .ref m18, .ref m19, .ref m20, .ref m21, .ref m22, .ref m23, .int v24, .ref m25, .ref m26, .ref m27, .ref m28, .ref m29, .int v30, .ref m31, .ref m32, .ref m33, .int v34, .int v35, .int v36, .ref m37, .ref m38, .ref m39, .ref m40, .long v41])), (m1, .inl (k 0, 4, .inl f1)), (m2, .inl (k 0, 4, .inl f2)), (m3, .inl (k 2, 240, .inr (.inl f3)))]) (w1 := []) hP hD [] [0, 1, 2, 3] rfl rfl (by decide +kernel) (by decide +kernel) hk1 hFc hP1 hD1
      clear hK1 hP1 hD1 hPc hDc hFc
      clear hk1 hz1 ht hvm
      have hP : va_P D vwCl [(mo, .inr (12, [.int 0, .ref m1, .ref m2, .ref m3, .ref m4, .ref m5, .int v6, .int v7, .int v8, .int v9, .int v10, .long v11, .int v12, .int v13, .int v14, .int v15, .ref m16, .ref m17, .ref m18, .ref m19, .ref m20, .ref m21, .ref m22, .ref m23, .int v24, .ref m25, .ref m26, .ref m27, .ref m28, .ref m29, .int v30, .ref m31, .ref m32, .ref m33, .int v34, .int v35, .int v36, .ref m37, .ref m38, .ref m39, .ref m40, .long v41])), (m1, .inl (k 0, 4, .inl f1)), (m2, .inl (k 0, 4, .inl f2)), (m3, .inl (k 2, 240, .inr (.inl f3)))] H1 := hP
      have hD : va_D A [(mo, .inr (12, [.int 0, .ref m1, .ref m2, .ref m3, .ref m4, .ref m5, .int v6, .int v7, .int v8, .int v9, .int v10, .long v11, .int v12, .int v13, .int v14, .int v15, .ref m16, .ref m17, .ref m18, .ref m19, .ref m20, .ref m21, .ref m22, .ref m23, .int v24, .ref m25, .ref m26, .ref m27, .ref m28, .ref m29, .int v30, .ref m31, .ref m32, .ref m33, .int v34, .int v35, .int v36, .ref m37, .ref m38, .ref m39, .ref m40, .long v41])), (m1, .inl (k 0, 4, .inl f1)), (m2, .inl (k 0, 4, .inl f2)), (m3, .inl (k 2, 240, .inr (.inl f3)))] := hD
      generalize H1 = H at hP hS ⊢
      have hw_11 : (0 ≤ r_10.toInt ∧ r_10.toInt ≤ 1) ∧ ((r_10.toInt = 1 ∧ 0 ≤ p1.toInt64.toInt ∧ p1.toInt64.toInt ≤ x_9.toInt64.toInt) ∨ (r_10.toInt = 0 ∧ (p1.toInt64.toInt < 0 ∨ x_9.toInt64.toInt < p1.toInt64.toInt))) := hw
      obtain ⟨hw_12, hw_13⟩ := hw_11
      clear hw
      simp only [Int32.toInt_toInt64] at hw_12 hw_13
      refine lv_if_ne (tgt := 49) hx hb dX12_write_43 (by decide) (fun h_14 => ?_) (fun h_14 => ?_)
      · skip
        have zh_14 : ¬ r_10.toInt = 0 := z_ne h_14
        refine lv_aload_n hx hb dX12_write_49 rfl (lv_at hl 0 rfl) ?_
        refine va_get (D := D) (ci := 12) (v := .ref m3) (C := RX12) (T := TX12) (N := 42) hx hb hts iT_X12 hown hK hP 0 rfl rfl 3 (by decide) (hts _ tw_6_56) (fun _ h9 => h9) rfl dX12_write_50 ?_
        refine lv_bipush (v := 60) hx hb dX12_write_53 (by decide) ?_
        refine lv_iload_n hx hb dX12_write_55 rfl (lv_at hl 1 rfl) ?_
        refine lv_imul hx hb dX12_write_56 ?_
        refine lv_topi (fun x_15 ex_15 => ?_)
        have zx_15 : x_15.toInt = 60 * p0.toInt := by rw [ex_15]; exact z_mul rfl rfl (by omega) (by omega)
        refine lv_iload_n hx hb dX12_write_57 rfl (lv_at hl 2 rfl) ?_
        refine lv_iadd hx hb dX12_write_58 ?_
        refine lv_topi (fun x_16 ex_16 => ?_)
        have zx_16 : x_16.toInt = x_15.toInt + p1.toInt := by rw [ex_16]; exact z_add rfl rfl (by omega) (by omega)
        refine lv_lload_n hx hb dX12_write_59 rfl (lv_at hl 3 rfl) ?_
        refine lv_aload_n hx hb dX12_write_60 rfl (lv_at hl 0 rfl) ?_
        refine va_get (D := D) (ci := 12) (v := .ref m1) (C := RX12) (T := TX12) (N := 42) hx hb hts iT_X12 hown hK hP 0 rfl rfl 1 (by decide) (hts _ tw_6_54) (fun _ h9 => h9) rfl dX12_write_61 ?_
        refine lv_iload_n hx hb dX12_write_64 rfl (lv_at hl 1 rfl) ?_
        refine va_iald hx hb hK hP 1 0 rfl rfl (z_in (by omega) (by omega)) dX12_write_65 ?_
        refine lv_topi (fun x_17 ex_17 => ?_)
        obtain rfl : x_6 = x_17 := ex_6.trans ex_17.symm
        obtain ⟨hPc, hDc, hFc⟩ := sub3 hP hD hS hA (ws' := []) [] (by decide +kernel) rfl
        refine va_calll (va_runS (As := [.long p2, .int x_6]) (rest := [.int x_16, .ref m3]) ⟨hx, hb, hml, hown, hts⟩ (c_X12_cut l D k p2 x_6 H.size) (va_cwS 2 hts (gS tw_6_195 tw_6_196 tw_1_13 tw_6_197) rfl rfl rfl hdS_X12_cut ⟨Nat.le_of_ble_eq_true rfl, Nat.le_of_ble_eq_true rfl⟩) (cz_S hK hPc hDc hN [.long p2, .int x_6]) rfl rfl hl.1 rfl (lv_room (Nat.le_of_ble_eq_true rfl)) dX12_write_66 ⟨Nat.le_of_ble_eq_true rfl, Nat.le_of_ble_eq_true rfl⟩) hS (fun q _ h => hFc q h) hFc (fun r_18 uZ tZ H1 locs ht hvm hw hB hz1 hk1 hS => ?_)
        obtain ⟨hP1, hK1, hD1⟩ := hB
        rw [ht] at hP1
        obtain ⟨hP, hD⟩ := va_join (wr := [(mo, .inr (12, [.int 0, .ref m1, .ref m2, .ref m3, .ref m4, .ref m5, .int v6, .int v7, .int v8, .int v9, .int v10, .long v11, .int v12, .int v13, .int v14, .int v15, .ref m16, .ref m17, .ref m18, .ref m19, .ref m20, .ref m21, .ref m22, .ref m23, .int v24, .ref m25, .ref m26, .ref m27, .ref m28, .ref m29, .int v30, .ref m31, .ref m32, .ref m33, .int v34, .int v35, .int v36, .ref m37, .ref m38, .ref m39, .ref m40, .long v41])), (m1, .inl (k 0, 4, .inl f1)), (m2, .inl (k 0, 4, .inl f2)), (m3, .inl (k 2, 240, .inr (.inl f3)))]) (w1 := []) hP hD [] [0, 1, 2, 3] rfl rfl (by decide +kernel) (by decide +kernel) hk1 hFc hP1 hD1
        clear hK1 hP1 hD1 hPc hDc hFc
        clear hk1 hz1 ht hvm
        have hP : va_P D vwCl [(mo, .inr (12, [.int 0, .ref m1, .ref m2, .ref m3, .ref m4, .ref m5, .int v6, .int v7, .int v8, .int v9, .int v10, .long v11, .int v12, .int v13, .int v14, .int v15, .ref m16, .ref m17, .ref m18, .ref m19, .ref m20, .ref m21, .ref m22, .ref m23, .int v24, .ref m25, .ref m26, .ref m27, .ref m28, .ref m29, .int v30, .ref m31, .ref m32, .ref m33, .int v34, .int v35, .int v36, .ref m37, .ref m38, .ref m39, .ref m40, .long v41])), (m1, .inl (k 0, 4, .inl f1)), (m2, .inl (k 0, 4, .inl f2)), (m3, .inl (k 2, 240, .inr (.inl f3)))] H1 := hP
        have hD : va_D A [(mo, .inr (12, [.int 0, .ref m1, .ref m2, .ref m3, .ref m4, .ref m5, .int v6, .int v7, .int v8, .int v9, .int v10, .long v11, .int v12, .int v13, .int v14, .int v15, .ref m16, .ref m17, .ref m18, .ref m19, .ref m20, .ref m21, .ref m22, .ref m23, .int v24, .ref m25, .ref m26, .ref m27, .ref m28, .ref m29, .int v30, .ref m31, .ref m32, .ref m33, .int v34, .int v35, .int v36, .ref m37, .ref m38, .ref m39, .ref m40, .long v41])), (m1, .inl (k 0, 4, .inl f1)), (m2, .inl (k 0, 4, .inl f2)), (m3, .inl (k 2, 240, .inr (.inl f3)))] := hD
        generalize H1 = H at hP hS ⊢
        clear hw
        refine va_last hx hb hK hP hD hS 3 2 rfl rfl (z_in (by omega) (by omega)) dX12_write_69 (fun H locs hP hD hS => ?_)
        obtain ⟨g_20, eg_20⟩ : ∃ z : Nat → Int64, vp_updL f3 x_16.toNatClampNeg r_18 = z := ⟨_, rfl⟩
        have hP : va_P D vwCl [(mo, .inr (12, [.int 0, .ref m1, .ref m2, .ref m3, .ref m4, .ref m5, .int v6, .int v7, .int v8, .int v9, .int v10, .long v11, .int v12, .int v13, .int v14, .int v15, .ref m16, .ref m17, .ref m18, .ref m19, .ref m20, .ref m21, .ref m22, .ref m23, .int v24, .ref m25, .ref m26, .ref m27, .ref m28, .ref m29, .int v30, .ref m31, .ref m32, .ref m33, .int v34, .int v35, .int v36, .ref m37, .ref m38, .ref m39, .ref m40, .long v41])), (m1, .inl (k 0, 4, .inl f1)), (m2, .inl (k 0, 4, .inl f2)), (m3, .inl (k 2, 240, .inr (.inl (vp_updL f3 x_16.toNatClampNeg r_18))))] H := hP
        have hD : va_D A [(mo, .inr (12, [.int 0, .ref m1, .ref m2, .ref m3, .ref m4, .ref m5, .int v6, .int v7, .int v8, .int v9, .int v10, .long v11, .int v12, .int v13, .int v14, .int v15, .ref m16, .ref m17, .ref m18, .ref m19, .ref m20, .ref m21, .ref m22, .ref m23, .int v24, .ref m25, .ref m26, .ref m27, .ref m28, .ref m29, .int v30, .ref m31, .ref m32, .ref m33, .int v34, .int v35, .int v36, .ref m37, .ref m38, .ref m39, .ref m40, .long v41])), (m1, .inl (k 0, 4, .inl f1)), (m2, .inl (k 0, 4, .inl f2)), (m3, .inl (k 2, 240, .inr (.inl (vp_updL f3 x_16.toNatClampNeg r_18))))] := hD
        rw [eg_20] at hP hD
        refine lv_iconst (v := 0) hx hb dX12_write_70 (by decide) ?_
        obtain ⟨hP9, hD9⟩ := sub2 hP hD (ws' := [(mo, .inr (12, [.int 0, .ref m1, .ref m2, .ref m3, .ref m4, .ref m5, .int v6, .int v7, .int v8, .int v9, .int v10, .long v11, .int v12, .int v13, .int v14, .int v15, .ref m16, .ref m17, .ref m18, .ref m19, .ref m20, .ref m21, .ref m22, .ref m23, .int v24, .ref m25, .ref m26, .ref m27, .ref m28, .ref m29, .int v30, .ref m31, .ref m32, .ref m33, .int v34, .int v35, .int v36, .ref m37, .ref m38, .ref m39, .ref m40, .long v41])), (m1, .inl (k 0, 4, .inl f1)), (m2, .inl (k 0, 4, .inl f2)), (m3, .inl (k 2, 240, .inr (.inl g_20)))]) [0, 1, 2, 3] (by decide +kernel) rfl
        exact W.iret (v := 0) hx hb hr (fun tZ ht hW => ⟨⟨0, (0, g_20), rfl, ⟨(show (-7) ≤ 0 ∧ 0 ≤ 0 from by omega), (show 0 ≤ 0 ∧ 0 ≤ 0 from by omega)⟩, by rw [ht]; exact hP9, va_K.moved hW.alike hK, hD9⟩, hS.F ht⟩) hS.2.2 dX12_write_71
      · skip
        have zh_14 : r_10.toInt = 0 := z_eq h_14
        refine lv_bipush (v := (-7)) hx hb dX12_write_46 (by decide) ?_
        obtain ⟨hP9, hD9⟩ := sub2 hP hD (ws' := [(mo, .inr (12, [.int 0, .ref m1, .ref m2, .ref m3, .ref m4, .ref m5, .int v6, .int v7, .int v8, .int v9, .int v10, .long v11, .int v12, .int v13, .int v14, .int v15, .ref m16, .ref m17, .ref m18, .ref m19, .ref m20, .ref m21, .ref m22, .ref m23, .int v24, .ref m25, .ref m26, .ref m27, .ref m28, .ref m29, .int v30, .ref m31, .ref m32, .ref m33, .int v34, .int v35, .int v36, .ref m37, .ref m38, .ref m39, .ref m40, .long v41])), (m1, .inl (k 0, 4, .inl f1)), (m2, .inl (k 0, 4, .inl f2)), (m3, .inl (k 2, 240, .inr (.inl f3)))]) [0, 1, 2, 3] (by decide +kernel) rfl
        exact W.iret (v := (-7)) hx hb hr (fun tZ ht hW => ⟨⟨(-7), (0, f3), rfl, ⟨(show (-7) ≤ (-7) ∧ (-7) ≤ 0 from by omega), (show 0 ≤ 0 ∧ 0 ≤ 0 from by omega)⟩, by rw [ht]; exact hP9, va_K.moved hW.alike hK, hD9⟩, hS.F ht⟩) hS.2.2 dX12_write_48
    · skip
      have zh_7 : x_6.toInt = (-1) := z_eq h_7
      refine lv_bipush (v := (-6)) hx hb dX12_write_25 (by decide) ?_
      obtain ⟨hP9, hD9⟩ := sub2 hP hD (ws' := [(mo, .inr (12, [.int 0, .ref m1, .ref m2, .ref m3, .ref m4, .ref m5, .int v6, .int v7, .int v8, .int v9, .int v10, .long v11, .int v12, .int v13, .int v14, .int v15, .ref m16, .ref m17, .ref m18, .ref m19, .ref m20, .ref m21, .ref m22, .ref m23, .int v24, .ref m25, .ref m26, .ref m27, .ref m28, .ref m29, .int v30, .ref m31, .ref m32, .ref m33, .int v34, .int v35, .int v36, .ref m37, .ref m38, .ref m39, .ref m40, .long v41])), (m1, .inl (k 0, 4, .inl f1)), (m2, .inl (k 0, 4, .inl f2)), (m3, .inl (k 2, 240, .inr (.inl f3)))]) [0, 1, 2, 3] (by decide +kernel) rfl
      exact W.iret (v := (-6)) hx hb hr (fun tZ ht hW => ⟨⟨(-6), (0, f3), rfl, ⟨(show (-7) ≤ (-6) ∧ (-6) ≤ 0 from by omega), (show 0 ≤ 0 ∧ 0 ≤ 0 from by omega)⟩, by rw [ht]; exact hP9, va_K.moved hW.alike hK, hD9⟩, hS.F ht⟩) hS.2.2 dX12_write_27
  · skip
    have zh_5 : r_1.toInt = 0 := z_eq h_5
    refine lv_bipush (v := (-2)) hx hb dX12_write_12 (by decide) ?_
    obtain ⟨hP9, hD9⟩ := sub2 hP hD (ws' := [(mo, .inr (12, [.int 0, .ref m1, .ref m2, .ref m3, .ref m4, .ref m5, .int v6, .int v7, .int v8, .int v9, .int v10, .long v11, .int v12, .int v13, .int v14, .int v15, .ref m16, .ref m17, .ref m18, .ref m19, .ref m20, .ref m21, .ref m22, .ref m23, .int v24, .ref m25, .ref m26, .ref m27, .ref m28, .ref m29, .int v30, .ref m31, .ref m32, .ref m33, .int v34, .int v35, .int v36, .ref m37, .ref m38, .ref m39, .ref m40, .long v41])), (m1, .inl (k 0, 4, .inl f1)), (m2, .inl (k 0, 4, .inl f2)), (m3, .inl (k 2, 240, .inr (.inl f3)))]) [0, 1, 2, 3] (by decide +kernel) rfl
    exact W.iret (v := (-2)) hx hb hr (fun tZ ht hW => ⟨⟨(-2), (0, f3), rfl, ⟨(show (-7) ≤ (-2) ∧ (-2) ≤ 0 from by omega), (show 0 ≤ 0 ∧ 0 ≤ 0 from by omega)⟩, by rw [ht]; exact hP9, va_K.moved hW.alike hK, hD9⟩, hS.F ht⟩) hS.2.2 dX12_write_14
set_option maxHeartbeats 4000000 in
set_option maxRecDepth 100000 in
theorem c_X12_paste (l : Launch) (D : va_G) (k : Nat → ClassId) (mo : Nat) (p0 : Int32) (p1 : Int32) (p2 : Int32) (p3 : Int32) (p4 : Int32) (v0 : Int32) (m1 : Nat) (m2 : Nat) (m3 : Nat) (m4 : Nat) (m5 : Nat) (v6 : Int32) (v7 : Int32) (v8 : Int32) (v9 : Int32) (v10 : Int32) (v11 : Int64) (v12 : Int32) (v13 : Int32) (v14 : Int32) (v15 : Int32) (m16 : Nat) (m17 : Nat) (m18 : Nat) (m19 : Nat) (m20 : Nat) (m21 : Nat) (m22 : Nat) (m23 : Nat) (v24 : Int32) (m25 : Nat) (m26 : Nat) (m27 : Nat) (m28 : Nat) (m29 : Nat) (v30 : Int32) (m31 : Nat) (m32 : Nat) (m33 : Nat) (v34 : Int32) (v35 : Int32) (v36 : Int32) (m37 : Nat) (m38 : Nat) (m39 : Nat) (m40 : Nat) (v41 : Int64) (f1 : Nat → Int32) (f2 : Nat → Int32) (f3 : Nat → Int64) (f4 : Nat → Int64) (sz : Nat) (h_v6 : 0 ≤ v6.toInt ∧ v6.toInt ≤ 1000) (h_v24 : 0 ≤ v24.toInt ∧ v24.toInt ≤ 1023) (hp_f1_0 : PR 4 1 0 (-1) 3 f1) (hp_f2_0 : PR 4 1 0 0 60 f2) : Met l yX12_paste (ww yX12_paste cX12_paste 7 (some .int)) ({ frames := 2, cells := 0, slots := 0, locals := 45 }) (Pre0 D k [(mo, .inr (12, [.int v0, .ref m1, .ref m2, .ref m3, .ref m4, .ref m5, .int v6, .int v7, .int v8, .int v9, .int v10, .long v11, .int v12, .int v13, .int v14, .int v15, .ref m16, .ref m17, .ref m18, .ref m19, .ref m20, .ref m21, .ref m22, .ref m23, .int v24, .ref m25, .ref m26, .ref m27, .ref m28, .ref m29, .int v30, .ref m31, .ref m32, .ref m33, .int v34, .int v35, .int v36, .ref m37, .ref m38, .ref m39, .ref m40, .long v41])), (m1, .inl (k 0, 4, .inl f1)), (m2, .inl (k 0, 4, .inl f2)), (m3, .inl (k 2, 240, .inr (.inl f3))), (m4, .inl (k 2, 60, .inr (.inl f4)))] sz [.ref mo, .int p0, .int p1, .int p2, .int p3, .int p4]) (va_Qi (fun (r : Int32) (u : Int32 × (Nat → Int64) × (Nat → Int64)) => match u with | (v0z, f3z, f4z) => ((-8) ≤ r.toInt ∧ r.toInt ≤ 0) ∧ (0 ≤ v0z.toInt ∧ v0z.toInt ≤ 0) ∧ (PA2 r.toInt p0.toInt p1.toInt p2.toInt p3.toInt p4.toInt (¬ f1 p0.toNatClampNeg = -1) (¬ f1 p2.toNatClampNeg = -1) (f1 p0.toNatClampNeg = f1 p2.toNatClampNeg) (f2 p0.toNatClampNeg).toInt (f2 p2.toNatClampNeg).toInt)) (fun (u : Int32 × (Nat → Int64) × (Nat → Int64)) tZ => match u with | (v0z, f3z, f4z) => Bw D k (va_A [(mo, .inr (12, [.int v0, .ref m1, .ref m2, .ref m3, .ref m4, .ref m5, .int v6, .int v7, .int v8, .int v9, .int v10, .long v11, .int v12, .int v13, .int v14, .int v15, .ref m16, .ref m17, .ref m18, .ref m19, .ref m20, .ref m21, .ref m22, .ref m23, .int v24, .ref m25, .ref m26, .ref m27, .ref m28, .ref m29, .int v30, .ref m31, .ref m32, .ref m33, .int v34, .int v35, .int v36, .ref m37, .ref m38, .ref m39, .ref m40, .long v41])), (m1, .inl (k 0, 4, .inl f1)), (m2, .inl (k 0, 4, .inl f2)), (m3, .inl (k 2, 240, .inr (.inl f3))), (m4, .inl (k 2, 60, .inr (.inl f4)))] sz) [(mo, .inr (12, [.int v0z, .ref m1, .ref m2, .ref m3, .ref m4, .ref m5, .int v6, .int v7, .int v8, .int v9, .int v10, .long v11, .int v12, .int v13, .int v14, .int v15, .ref m16, .ref m17, .ref m18, .ref m19, .ref m20, .ref m21, .ref m22, .ref m23, .int v24, .ref m25, .ref m26, .ref m27, .ref m28, .ref m29, .int v30, .ref m31, .ref m32, .ref m33, .int v34, .int v35, .int v36, .ref m37, .ref m38, .ref m39, .ref m40, .long v41])), (m1, .inl (k 0, 4, .inl f1)), (m2, .inl (k 0, 4, .inl f2)), (m3, .inl (k 2, 240, .inr (.inl f3z))), (m4, .inl (k 2, 60, .inr (.inl f4z)))] tZ) (va_A [(mo, .inr (12, [.int v0, .ref m1, .ref m2, .ref m3, .ref m4, .ref m5, .int v6, .int v7, .int v8, .int v9, .int v10, .long v11, .int v12, .int v13, .int v14, .int v15, .ref m16, .ref m17, .ref m18, .ref m19, .ref m20, .ref m21, .ref m22, .ref m23, .int v24, .ref m25, .ref m26, .ref m27, .ref m28, .ref m29, .int v30, .ref m31, .ref m32, .ref m33, .int v34, .int v35, .int v36, .ref m37, .ref m38, .ref m39, .ref m40, .long v41])), (m1, .inl (k 0, 4, .inl f1)), (m2, .inl (k 0, 4, .inl f2)), (m3, .inl (k 2, 240, .inr (.inl f3))), (m4, .inl (k 2, 60, .inr (.inl f4)))] sz)) 0 0 (va_A [(mo, .inr (12, [.int v0, .ref m1, .ref m2, .ref m3, .ref m4, .ref m5, .int v6, .int v7, .int v8, .int v9, .int v10, .long v11, .int v12, .int v13, .int v14, .int v15, .ref m16, .ref m17, .ref m18, .ref m19, .ref m20, .ref m21, .ref m22, .ref m23, .int v24, .ref m25, .ref m26, .ref m27, .ref m28, .ref m29, .int v30, .ref m31, .ref m32, .ref m33, .int v34, .int v35, .int v36, .ref m37, .ref m38, .ref m39, .ref m40, .long v41])), (m1, .inl (k 0, 4, .inl f1)), (m2, .inl (k 0, 4, .inl f2)), (m3, .inl (k 2, 240, .inr (.inl f3))), (m4, .inl (k 2, 60, .inr (.inl f4)))] sz) := by
  refine Met.ofW (cc := cX12_paste) (maxL := 7) (ret := (some .int)) (by decide +kernel) rfl ?_
  intro p e s m args below meth c s₁ B hml hv
  obtain ⟨rfl, hsz, hP, hK, hD0, hN⟩ := hv
  have hx := B.exec
  have hb := B.bytes
  have hr := B.returns
  have hts : ∀ w ∈ TT, w.before _ s = true := fun w h => atoms_spec (ws := ww yX12_paste cX12_paste 7 (some .int)) B.pre w (List.mem_cons_of_mem _ h)
  have hown : s.vm.findClass RX12 = some m.cls := findClass_of_methodNamed B.named
  have hlocks := B.notSynchronized
  subst hsz
  have hD := hD0.self (sz := s.heap.size)
  generalize hAe : va_A [(mo, .inr (12, [.int v0, .ref m1, .ref m2, .ref m3, .ref m4, .ref m5, .int v6, .int v7, .int v8, .int v9, .int v10, .long v11, .int v12, .int v13, .int v14, .int v15, .ref m16, .ref m17, .ref m18, .ref m19, .ref m20, .ref m21, .ref m22, .ref m23, .int v24, .ref m25, .ref m26, .ref m27, .ref m28, .ref m29, .int v30, .ref m31, .ref m32, .ref m33, .int v34, .int v35, .int v36, .ref m37, .ref m38, .ref m39, .ref m40, .long v41])), (m1, .inl (k 0, 4, .inl f1)), (m2, .inl (k 0, 4, .inl f2)), (m3, .inl (k 2, 240, .inr (.inl f3))), (m4, .inl (k 2, 60, .inr (.inl f4)))] s.heap.size = A at hD ⊢
  have hA : ∀ q : Nat, s.heap.size ≤ q → A q := fun q h => by rw [← hAe]; exact Or.inr h
  have hS : va_S A s.heap s.heap [] := va_S.rf
  have hl := lv_entry ([.ref mo, .int p0, .int p1, .int p2, .int p3, .int p4]) (n := 7) (Nat.le_of_ble_eq_true rfl)
  rw [lg_entry_eq]
  generalize (lg_sl ([.ref mo, .int p0, .int p1, .int p2, .int p3, .int p4]) ++ List.replicate (7 - (lg_sl ([.ref mo, .int p0, .int p1, .int p2, .int p3, .int p4])).length) Slot.unset).toArray = ls at hl ⊢
  have hl : lv_has ls 7 [(0, .ref mo), (1, .int p0), (2, .int p1), (3, .int p2), (4, .int p3), (5, .int p4)] := hl
  refine lv_aload_n hx hb dX12_paste_0 rfl (lv_at hl 0 rfl) ?_
  refine lv_iconst (v := 0) hx hb dX12_paste_1 (by decide) ?_
  refine va_put (D := D) (ci := 12) (v := .int 0) (ty := tyX12 0) (C := RX12) (T := TX12) (N := 42) hx hb hts iT_X12 tyX12 tyX12_ok nmX12 hown hK hP hD hS 0 rfl rfl 0 (by decide) (hts _ tw_6_53) (fun _ h9 => h9) rfl (tyX12_ok 0 (by decide)) rfl rfl (Nat.le_of_ble_eq_true rfl) dX12_paste_2 (fun H locs hP hD hS => ?_)
  have hP : va_P D vwCl [(mo, .inr (12, [.int 0, .ref m1, .ref m2, .ref m3, .ref m4, .ref m5, .int v6, .int v7, .int v8, .int v9, .int v10, .long v11, .int v12, .int v13, .int v14, .int v15, .ref m16, .ref m17, .ref m18, .ref m19, .ref m20, .ref m21, .ref m22, .ref m23, .int v24, .ref m25, .ref m26, .ref m27, .ref m28, .ref m29, .int v30, .ref m31, .ref m32, .ref m33, .int v34, .int v35, .int v36, .ref m37, .ref m38, .ref m39, .ref m40, .long v41])), (m1, .inl (k 0, 4, .inl f1)), (m2, .inl (k 0, 4, .inl f2)), (m3, .inl (k 2, 240, .inr (.inl f3))), (m4, .inl (k 2, 60, .inr (.inl f4)))] H := hP
  have hD : va_D A [(mo, .inr (12, [.int 0, .ref m1, .ref m2, .ref m3, .ref m4, .ref m5, .int v6, .int v7, .int v8, .int v9, .int v10, .long v11, .int v12, .int v13, .int v14, .int v15, .ref m16, .ref m17, .ref m18, .ref m19, .ref m20, .ref m21, .ref m22, .ref m23, .int v24, .ref m25, .ref m26, .ref m27, .ref m28, .ref m29, .int v30, .ref m31, .ref m32, .ref m33, .int v34, .int v35, .int v36, .ref m37, .ref m38, .ref m39, .ref m40, .long v41])), (m1, .inl (k 0, 4, .inl f1)), (m2, .inl (k 0, 4, .inl f2)), (m3, .inl (k 2, 240, .inr (.inl f3))), (m4, .inl (k 2, 60, .inr (.inl f4)))] := hD
  refine lv_iload_n hx hb dX12_paste_5 rfl (lv_at hl 1 rfl) ?_
  obtain ⟨hPc, hDc, hFc⟩ := sub3 hP hD hS hA (ws' := []) [] (by decide +kernel) rfl
  refine va_calli (va_runS (As := [.int p0]) (rest := []) ⟨hx, hb, hml, hown, hts⟩ (c_X12_isSlot l D k p0 H.size) (va_cwS 1 hts (gS tw_6_184 tw_6_185 tw_1_13 tw_6_186) rfl rfl rfl hdS_X12_isSlot ⟨Nat.le_of_ble_eq_true rfl, Nat.le_of_ble_eq_true rfl⟩) (cz_S hK hPc hDc hN [.int p0]) rfl rfl hl.1 rfl (lv_room (Nat.le_of_ble_eq_true rfl)) dX12_paste_6 ⟨Nat.le_of_ble_eq_true rfl, Nat.le_of_ble_eq_true rfl⟩) hS (fun q _ h => hFc q h) hFc (fun r_1 uZ tZ H1 locs ht hvm hw hB hz1 hk1 hS => ?_)
  obtain ⟨hP1, hK1, hD1⟩ := hB
  rw [ht] at hP1
  obtain ⟨hP, hD⟩ := va_join (wr := [(mo, .inr (12, [.int 0, .ref m1, .ref m2, .ref m3, .ref m4, .ref m5, .int v6, .int v7, .int v8, .int v9, .int v10, .long v11, .int v12, .int v13, .int v14, .int v15, .ref m16, .ref m17, .ref m18, .ref m19, .ref m20, .ref m21, .ref m22, .ref m23, .int v24, .ref m25, .ref m26, .ref m27, .ref m28, .ref m29, .int v30, .ref m31, .ref m32, .ref m33, .int v34, .int v35, .int v36, .ref m37, .ref m38, .ref m39, .ref m40, .long v41])), (m1, .inl (k 0, 4, .inl f1)), (m2, .inl (k 0, 4, .inl f2)), (m3, .inl (k 2, 240, .inr (.inl f3))), (m4, .inl (k 2, 60, .inr (.inl f4)))]) (w1 := []) hP hD [] [0, 1, 2, 3, 4] rfl rfl (by decide +kernel) (by decide +kernel) hk1 hFc hP1 hD1
  clear hK1 hP1 hD1 hPc hDc hFc
  clear hk1 hz1 ht hvm
  have hP : va_P D vwCl [(mo, .inr (12, [.int 0, .ref m1, .ref m2, .ref m3, .ref m4, .ref m5, .int v6, .int v7, .int v8, .int v9, .int v10, .long v11, .int v12, .int v13, .int v14, .int v15, .ref m16, .ref m17, .ref m18, .ref m19, .ref m20, .ref m21, .ref m22, .ref m23, .int v24, .ref m25, .ref m26, .ref m27, .ref m28, .ref m29, .int v30, .ref m31, .ref m32, .ref m33, .int v34, .int v35, .int v36, .ref m37, .ref m38, .ref m39, .ref m40, .long v41])), (m1, .inl (k 0, 4, .inl f1)), (m2, .inl (k 0, 4, .inl f2)), (m3, .inl (k 2, 240, .inr (.inl f3))), (m4, .inl (k 2, 60, .inr (.inl f4)))] H1 := hP
  have hD : va_D A [(mo, .inr (12, [.int 0, .ref m1, .ref m2, .ref m3, .ref m4, .ref m5, .int v6, .int v7, .int v8, .int v9, .int v10, .long v11, .int v12, .int v13, .int v14, .int v15, .ref m16, .ref m17, .ref m18, .ref m19, .ref m20, .ref m21, .ref m22, .ref m23, .int v24, .ref m25, .ref m26, .ref m27, .ref m28, .ref m29, .int v30, .ref m31, .ref m32, .ref m33, .int v34, .int v35, .int v36, .ref m37, .ref m38, .ref m39, .ref m40, .long v41])), (m1, .inl (k 0, 4, .inl f1)), (m2, .inl (k 0, 4, .inl f2)), (m3, .inl (k 2, 240, .inr (.inl f3))), (m4, .inl (k 2, 60, .inr (.inl f4)))] := hD
  generalize H1 = H at hP hS ⊢
  have hw_2 : (0 ≤ r_1.toInt ∧ r_1.toInt ≤ 1) ∧ ((r_1.toInt = 1 ∧ 0 ≤ p0.toInt ∧ p0.toInt ≤ 3) ∨ (r_1.toInt = 0 ∧ (p0.toInt < 0 ∨ 3 < p0.toInt))) := hw
  obtain ⟨hw_3, hw_4⟩ := hw_2
  clear hw
  refine lv_if_eq (tgt := 19) hx hb dX12_paste_9 (by decide) (fun h_5 => ?_) (fun h_5 => ?_)
  · skip
    have zh_5 : r_1.toInt = 0 := z_eq h_5
    refine lv_bipush (v := (-2)) hx hb dX12_paste_19 (by decide) ?_
    obtain ⟨hP9, hD9⟩ := sub2 hP hD (ws' := [(mo, .inr (12, [.int 0, .ref m1, .ref m2, .ref m3, .ref m4, .ref m5, .int v6, .int v7, .int v8, .int v9, .int v10, .long v11, .int v12, .int v13, .int v14, .int v15, .ref m16, .ref m17, .ref m18, .ref m19, .ref m20, .ref m21, .ref m22, .ref m23, .int v24, .ref m25, .ref m26, .ref m27, .ref m28, .ref m29, .int v30, .ref m31, .ref m32, .ref m33, .int v34, .int v35, .int v36, .ref m37, .ref m38, .ref m39, .ref m40, .long v41])), (m1, .inl (k 0, 4, .inl f1)), (m2, .inl (k 0, 4, .inl f2)), (m3, .inl (k 2, 240, .inr (.inl f3))), (m4, .inl (k 2, 60, .inr (.inl f4)))]) [0, 1, 2, 3, 4] (by decide +kernel) rfl
    exact W.iret (v := (-2)) hx hb hr (fun tZ ht hW => ⟨⟨(-2), (0, f3, f4), rfl, ⟨(show (-8) ≤ (-2) ∧ (-2) ≤ 0 from by omega), (show 0 ≤ 0 ∧ 0 ≤ 0 from by omega), (Or.inl ⟨rfl, show ¬ ((0 ≤ p0.toInt ∧ p0.toInt ≤ 3) ∧ 0 ≤ p2.toInt ∧ p2.toInt ≤ 3) from by omega⟩)⟩, by rw [ht]; exact hP9, va_K.moved hW.alike hK, hD9⟩, hS.F ht⟩) hS.2.2 dX12_paste_21
  · skip
    have zh_5 : ¬ r_1.toInt = 0 := z_ne h_5
    refine lv_iload_n hx hb dX12_paste_12 rfl (lv_at hl 3 rfl) ?_
    obtain ⟨hPc, hDc, hFc⟩ := sub3 hP hD hS hA (ws' := []) [] (by decide +kernel) rfl
    refine va_calli (va_runS (As := [.int p2]) (rest := []) ⟨hx, hb, hml, hown, hts⟩ (c_X12_isSlot l D k p2 H.size) (va_cwS 1 hts (gS tw_6_184 tw_6_185 tw_1_13 tw_6_186) rfl rfl rfl hdS_X12_isSlot ⟨Nat.le_of_ble_eq_true rfl, Nat.le_of_ble_eq_true rfl⟩) (cz_S hK hPc hDc hN [.int p2]) rfl rfl hl.1 rfl (lv_room (Nat.le_of_ble_eq_true rfl)) dX12_paste_13 ⟨Nat.le_of_ble_eq_true rfl, Nat.le_of_ble_eq_true rfl⟩) hS (fun q _ h => hFc q h) hFc (fun r_6 uZ tZ H1 locs ht hvm hw hB hz1 hk1 hS => ?_)
    obtain ⟨hP1, hK1, hD1⟩ := hB
    rw [ht] at hP1
    obtain ⟨hP, hD⟩ := va_join (wr := [(mo, .inr (12, [.int 0, .ref m1, .ref m2, .ref m3, .ref m4, .ref m5, .int v6, .int v7, .int v8, .int v9, .int v10, .long v11, .int v12, .int v13, .int v14, .int v15, .ref m16, .ref m17, .ref m18, .ref m19, .ref m20, .ref m21, .ref m22, .ref m23, .int v24, .ref m25, .ref m26, .ref m27, .ref m28, .ref m29, .int v30, .ref m31, .ref m32, .ref m33, .int v34, .int v35, .int v36, .ref m37, .ref m38, .ref m39, .ref m40, .long v41])), (m1, .inl (k 0, 4, .inl f1)), (m2, .inl (k 0, 4, .inl f2)), (m3, .inl (k 2, 240, .inr (.inl f3))), (m4, .inl (k 2, 60, .inr (.inl f4)))]) (w1 := []) hP hD [] [0, 1, 2, 3, 4] rfl rfl (by decide +kernel) (by decide +kernel) hk1 hFc hP1 hD1
    clear hK1 hP1 hD1 hPc hDc hFc
    clear hk1 hz1 ht hvm
    have hP : va_P D vwCl [(mo, .inr (12, [.int 0, .ref m1, .ref m2, .ref m3, .ref m4, .ref m5, .int v6, .int v7, .int v8, .int v9, .int v10, .long v11, .int v12, .int v13, .int v14, .int v15, .ref m16, .ref m17, .ref m18, .ref m19, .ref m20, .ref m21, .ref m22, .ref m23, .int v24, .ref m25, .ref m26, .ref m27, .ref m28, .ref m29, .int v30, .ref m31, .ref m32, .ref m33, .int v34, .int v35, .int v36, .ref m37, .ref m38, .ref m39, .ref m40, .long v41])), (m1, .inl (k 0, 4, .inl f1)), (m2, .inl (k 0, 4, .inl f2)), (m3, .inl (k 2, 240, .inr (.inl f3))), (m4, .inl (k 2, 60, .inr (.inl f4)))] H1 := hP
    have hD : va_D A [(mo, .inr (12, [.int 0, .ref m1, .ref m2, .ref m3, .ref m4, .ref m5, .int v6, .int v7, .int v8, .int v9, .int v10, .long v11, .int v12, .int v13, .int v14, .int v15, .ref m16, .ref m17, .ref m18, .ref m19, .ref m20, .ref m21, .ref m22, .ref m23, .int v24, .ref m25, .ref m26, .ref m27, .ref m28, .ref m29, .int v30, .ref m31, .ref m32, .ref m33, .int v34, .int v35, .int v36, .ref m37, .ref m38, .ref m39, .ref m40, .long v41])), (m1, .inl (k 0, 4, .inl f1)), (m2, .inl (k 0, 4, .inl f2)), (m3, .inl (k 2, 240, .inr (.inl f3))), (m4, .inl (k 2, 60, .inr (.inl f4)))] := hD
    generalize H1 = H at hP hS ⊢
    have hw_7 : (0 ≤ r_6.toInt ∧ r_6.toInt ≤ 1) ∧ ((r_6.toInt = 1 ∧ 0 ≤ p2.toInt ∧ p2.toInt ≤ 3) ∨ (r_6.toInt = 0 ∧ (p2.toInt < 0 ∨ 3 < p2.toInt))) := hw
    obtain ⟨hw_8, hw_9⟩ := hw_7
    clear hw
    refine lv_if_ne (tgt := 22) hx hb dX12_paste_16 (by decide) (fun h_10 => ?_) (fun h_10 => ?_)
    · skip
      have zh_10 : ¬ r_6.toInt = 0 := z_ne h_10
      refine lv_aload_n hx hb dX12_paste_22 rfl (lv_at hl 0 rfl) ?_
      refine va_get (D := D) (ci := 12) (v := .ref m1) (C := RX12) (T := TX12) (N := 42) hx hb hts iT_X12 hown hK hP 0 rfl rfl 1 (by decide) (hts _ tw_6_54) (fun _ h9 => h9) rfl dX12_paste_23 ?_
      refine lv_iload_n hx hb dX12_paste_26 rfl (lv_at hl 1 rfl) ?_
      refine va_iald hx hb hK hP 1 0 rfl rfl (z_in (by omega) (by omega)) dX12_paste_27 ?_
      refine lv_topi (fun x_11 ex_11 => ?_)
      have zx_11r0 : (-1) ≤ x_11.toInt ∧ x_11.toInt ≤ 3 := by rw [ex_11]; exact PR.ld hp_f1_0 (by omega) (by omega) (by omega)
      refine lv_iconst (v := (-1)) hx hb dX12_paste_28 (by decide) ?_
      refine lv_icmp_eq (tgt := 42) hx hb dX12_paste_29 (by decide) (fun h_12 => ?_) (fun h_12 => ?_)
      · skip
        have zh_12 : x_11.toInt = (-1) := z_eq h_12
        refine lv_bipush (v := (-6)) hx hb dX12_paste_42 (by decide) ?_
        obtain ⟨hP9, hD9⟩ := sub2 hP hD (ws' := [(mo, .inr (12, [.int 0, .ref m1, .ref m2, .ref m3, .ref m4, .ref m5, .int v6, .int v7, .int v8, .int v9, .int v10, .long v11, .int v12, .int v13, .int v14, .int v15, .ref m16, .ref m17, .ref m18, .ref m19, .ref m20, .ref m21, .ref m22, .ref m23, .int v24, .ref m25, .ref m26, .ref m27, .ref m28, .ref m29, .int v30, .ref m31, .ref m32, .ref m33, .int v34, .int v35, .int v36, .ref m37, .ref m38, .ref m39, .ref m40, .long v41])), (m1, .inl (k 0, 4, .inl f1)), (m2, .inl (k 0, 4, .inl f2)), (m3, .inl (k 2, 240, .inr (.inl f3))), (m4, .inl (k 2, 60, .inr (.inl f4)))]) [0, 1, 2, 3, 4] (by decide +kernel) rfl
        exact W.iret (v := (-6)) hx hb hr (fun tZ ht hW => ⟨⟨(-6), (0, f3, f4), rfl, ⟨(show (-8) ≤ (-6) ∧ (-6) ≤ 0 from by omega), (show 0 ≤ 0 ∧ 0 ≤ 0 from by omega), (Or.inr (Or.inl ⟨show (0 ≤ p0.toInt ∧ p0.toInt ≤ 3) ∧ 0 ≤ p2.toInt ∧ p2.toInt ≤ 3 from by omega, rfl, fun q9 => q9.1 (show f1 p0.toNatClampNeg = -1 from by rw [← ex_11]; exact h_12)⟩))⟩, by rw [ht]; exact hP9, va_K.moved hW.alike hK, hD9⟩, hS.F ht⟩) hS.2.2 dX12_paste_44
      · skip
        have zh_12 : ¬ x_11.toInt = (-1) := z_ne h_12
        refine lv_aload_n hx hb dX12_paste_32 rfl (lv_at hl 0 rfl) ?_
        refine va_get (D := D) (ci := 12) (v := .ref m1) (C := RX12) (T := TX12) (N := 42) hx hb hts iT_X12 hown hK hP 0 rfl rfl 1 (by decide) (hts _ tw_6_54) (fun _ h9 => h9) rfl dX12_paste_33 ?_
        refine lv_iload_n hx hb dX12_paste_36 rfl (lv_at hl 3 rfl) ?_
        refine va_iald hx hb hK hP 1 0 rfl rfl (z_in (by omega) (by omega)) dX12_paste_37 ?_
        refine lv_topi (fun x_13 ex_13 => ?_)
        have zx_13r0 : (-1) ≤ x_13.toInt ∧ x_13.toInt ≤ 3 := by rw [ex_13]; exact PR.ld hp_f1_0 (by omega) (by omega) (by omega)
        refine lv_iconst (v := (-1)) hx hb dX12_paste_38 (by decide) ?_
        refine lv_icmp_ne (tgt := 45) hx hb dX12_paste_39 (by decide) (fun h_14 => ?_) (fun h_14 => ?_)
        · skip
          have zh_14 : ¬ x_13.toInt = (-1) := z_ne h_14
          refine lv_aload_n hx hb dX12_paste_45 rfl (lv_at hl 0 rfl) ?_
          refine va_get (D := D) (ci := 12) (v := .ref m1) (C := RX12) (T := TX12) (N := 42) hx hb hts iT_X12 hown hK hP 0 rfl rfl 1 (by decide) (hts _ tw_6_54) (fun _ h9 => h9) rfl dX12_paste_46 ?_
          refine lv_iload_n hx hb dX12_paste_49 rfl (lv_at hl 1 rfl) ?_
          refine va_iald hx hb hK hP 1 0 rfl rfl (z_in (by omega) (by omega)) dX12_paste_50 ?_
          refine lv_topi (fun x_15 ex_15 => ?_)
          obtain rfl : x_11 = x_15 := ex_11.trans ex_15.symm
          refine lv_aload_n hx hb dX12_paste_51 rfl (lv_at hl 0 rfl) ?_
          refine va_get (D := D) (ci := 12) (v := .ref m1) (C := RX12) (T := TX12) (N := 42) hx hb hts iT_X12 hown hK hP 0 rfl rfl 1 (by decide) (hts _ tw_6_54) (fun _ h9 => h9) rfl dX12_paste_52 ?_
          refine lv_iload_n hx hb dX12_paste_55 rfl (lv_at hl 3 rfl) ?_
          refine va_iald hx hb hK hP 1 0 rfl rfl (z_in (by omega) (by omega)) dX12_paste_56 ?_
          refine lv_topi (fun x_16 ex_16 => ?_)
          obtain rfl : x_13 = x_16 := ex_13.trans ex_16.symm
          refine lv_icmp_eq (tgt := 63) hx hb dX12_paste_57 (by decide) (fun h_17 => ?_) (fun h_17 => ?_)
          · skip
            have zh_17 : x_11.toInt = x_13.toInt := z_eq h_17
            refine lv_iload_n hx hb dX12_paste_63 rfl (lv_at hl 2 rfl) ?_
            refine lv_if_lt (tgt := 112) hx hb dX12_paste_64 (by decide) (fun h_18 => ?_) (fun h_18 => ?_)
            · skip
              have zh_18 : p1.toInt < 0 := z_lt h_18
              refine lv_bipush (v := (-7)) hx hb dX12_paste_112 (by decide) ?_
              obtain ⟨hP9, hD9⟩ := sub2 hP hD (ws' := [(mo, .inr (12, [.int 0, .ref m1, .ref m2, .ref m3, .ref m4, .ref m5, .int v6, .int v7, .int v8, .int v9, .int v10, .long v11, .int v12, .int v13, .int v14, .int v15, .ref m16, .ref m17, .ref m18, .ref m19, .ref m20, .ref m21, .ref m22, .ref m23, .int v24, .ref m25, .ref m26, .ref m27, .ref m28, .ref m29, .int v30, .ref m31, .ref m32, .ref m33, .int v34, .int v35, .int v36, .ref m37, .ref m38, .ref m39, .ref m40, .long v41])), (m1, .inl (k 0, 4, .inl f1)), (m2, .inl (k 0, 4, .inl f2)), (m3, .inl (k 2, 240, .inr (.inl f3))), (m4, .inl (k 2, 60, .inr (.inl f4)))]) [0, 1, 2, 3, 4] (by decide +kernel) rfl
              exact W.iret (v := (-7)) hx hb hr (fun tZ ht hW => ⟨⟨(-7), (0, f3, f4), rfl, ⟨(show (-8) ≤ (-7) ∧ (-7) ≤ 0 from by omega), (show 0 ≤ 0 ∧ 0 ≤ 0 from by omega), (Or.inr (Or.inr (Or.inr (Or.inl ⟨show (0 ≤ p0.toInt ∧ p0.toInt ≤ 3) ∧ 0 ≤ p2.toInt ∧ p2.toInt ≤ 3 from by omega, rfl, ⟨(show ¬ f1 p0.toNatClampNeg = -1 from by rw [← ex_11]; exact h_12), (show ¬ f1 p2.toNatClampNeg = -1 from by rw [← ex_13]; exact h_14)⟩, (show f1 p0.toNatClampNeg = f1 p2.toNatClampNeg from by rw [← ex_11, ← ex_13]; exact h_17), show p1.toInt < 0 ∨ p3.toInt < 0 ∨ p4.toInt < 0 ∨ (f2 p0.toNatClampNeg).toInt < p1.toInt + p4.toInt ∨ (f2 p2.toNatClampNeg).toInt < p3.toInt + p4.toInt from by omega⟩))))⟩, by rw [ht]; exact hP9, va_K.moved hW.alike hK, hD9⟩, hS.F ht⟩) hS.2.2 dX12_paste_114
            · skip
              have zh_18 : 0 ≤ p1.toInt := z_nlt h_18
              refine lv_iload hx hb dX12_paste_67 (lv_at hl 4 rfl) ?_
              refine lv_if_lt (tgt := 112) hx hb dX12_paste_69 (by decide) (fun h_19 => ?_) (fun h_19 => ?_)
              · skip
                have zh_19 : p3.toInt < 0 := z_lt h_19
                refine lv_bipush (v := (-7)) hx hb dX12_paste_112 (by decide) ?_
                obtain ⟨hP9, hD9⟩ := sub2 hP hD (ws' := [(mo, .inr (12, [.int 0, .ref m1, .ref m2, .ref m3, .ref m4, .ref m5, .int v6, .int v7, .int v8, .int v9, .int v10, .long v11, .int v12, .int v13, .int v14, .int v15, .ref m16, .ref m17, .ref m18, .ref m19, .ref m20, .ref m21, .ref m22, .ref m23, .int v24, .ref m25, .ref m26, .ref m27, .ref m28, .ref m29, .int v30, .ref m31, .ref m32, .ref m33, .int v34, .int v35, .int v36, .ref m37, .ref m38, .ref m39, .ref m40, .long v41])), (m1, .inl (k 0, 4, .inl f1)), (m2, .inl (k 0, 4, .inl f2)), (m3, .inl (k 2, 240, .inr (.inl f3))), (m4, .inl (k 2, 60, .inr (.inl f4)))]) [0, 1, 2, 3, 4] (by decide +kernel) rfl
                exact W.iret (v := (-7)) hx hb hr (fun tZ ht hW => ⟨⟨(-7), (0, f3, f4), rfl, ⟨(show (-8) ≤ (-7) ∧ (-7) ≤ 0 from by omega), (show 0 ≤ 0 ∧ 0 ≤ 0 from by omega), (Or.inr (Or.inr (Or.inr (Or.inl ⟨show (0 ≤ p0.toInt ∧ p0.toInt ≤ 3) ∧ 0 ≤ p2.toInt ∧ p2.toInt ≤ 3 from by omega, rfl, ⟨(show ¬ f1 p0.toNatClampNeg = -1 from by rw [← ex_11]; exact h_12), (show ¬ f1 p2.toNatClampNeg = -1 from by rw [← ex_13]; exact h_14)⟩, (show f1 p0.toNatClampNeg = f1 p2.toNatClampNeg from by rw [← ex_11, ← ex_13]; exact h_17), show p1.toInt < 0 ∨ p3.toInt < 0 ∨ p4.toInt < 0 ∨ (f2 p0.toNatClampNeg).toInt < p1.toInt + p4.toInt ∨ (f2 p2.toNatClampNeg).toInt < p3.toInt + p4.toInt from by omega⟩))))⟩, by rw [ht]; exact hP9, va_K.moved hW.alike hK, hD9⟩, hS.F ht⟩) hS.2.2 dX12_paste_114
              · skip
                have zh_19 : 0 ≤ p3.toInt := z_nlt h_19
                refine lv_iload hx hb dX12_paste_72 (lv_at hl 5 rfl) ?_
                refine lv_if_lt (tgt := 112) hx hb dX12_paste_74 (by decide) (fun h_20 => ?_) (fun h_20 => ?_)
                · skip
                  have zh_20 : p4.toInt < 0 := z_lt h_20
                  refine lv_bipush (v := (-7)) hx hb dX12_paste_112 (by decide) ?_
                  obtain ⟨hP9, hD9⟩ := sub2 hP hD (ws' := [(mo, .inr (12, [.int 0, .ref m1, .ref m2, .ref m3, .ref m4, .ref m5, .int v6, .int v7, .int v8, .int v9, .int v10, .long v11, .int v12, .int v13, .int v14, .int v15, .ref m16, .ref m17, .ref m18, .ref m19, .ref m20, .ref m21, .ref m22, .ref m23, .int v24, .ref m25, .ref m26, .ref m27, .ref m28, .ref m29, .int v30, .ref m31, .ref m32, .ref m33, .int v34, .int v35, .int v36, .ref m37, .ref m38, .ref m39, .ref m40, .long v41])), (m1, .inl (k 0, 4, .inl f1)), (m2, .inl (k 0, 4, .inl f2)), (m3, .inl (k 2, 240, .inr (.inl f3))), (m4, .inl (k 2, 60, .inr (.inl f4)))]) [0, 1, 2, 3, 4] (by decide +kernel) rfl
                  exact W.iret (v := (-7)) hx hb hr (fun tZ ht hW => ⟨⟨(-7), (0, f3, f4), rfl, ⟨(show (-8) ≤ (-7) ∧ (-7) ≤ 0 from by omega), (show 0 ≤ 0 ∧ 0 ≤ 0 from by omega), (Or.inr (Or.inr (Or.inr (Or.inl ⟨show (0 ≤ p0.toInt ∧ p0.toInt ≤ 3) ∧ 0 ≤ p2.toInt ∧ p2.toInt ≤ 3 from by omega, rfl, ⟨(show ¬ f1 p0.toNatClampNeg = -1 from by rw [← ex_11]; exact h_12), (show ¬ f1 p2.toNatClampNeg = -1 from by rw [← ex_13]; exact h_14)⟩, (show f1 p0.toNatClampNeg = f1 p2.toNatClampNeg from by rw [← ex_11, ← ex_13]; exact h_17), show p1.toInt < 0 ∨ p3.toInt < 0 ∨ p4.toInt < 0 ∨ (f2 p0.toNatClampNeg).toInt < p1.toInt + p4.toInt ∨ (f2 p2.toNatClampNeg).toInt < p3.toInt + p4.toInt from by omega⟩))))⟩, by rw [ht]; exact hP9, va_K.moved hW.alike hK, hD9⟩, hS.F ht⟩) hS.2.2 dX12_paste_114
                · skip
                  have zh_20 : 0 ≤ p4.toInt := z_nlt h_20
                  refine lv_iload_n hx hb dX12_paste_77 rfl (lv_at hl 2 rfl) ?_
                  refine lv_i2l (v := p1.toInt64) hx hb dX12_paste_78 rfl ?_
                  refine lv_iload hx hb dX12_paste_79 (lv_at hl 5 rfl) ?_
                  refine lv_i2l (v := p4.toInt64) hx hb dX12_paste_81 rfl ?_
                  refine lv_ladd hx hb dX12_paste_82 ?_
                  refine lv_topl (fun x_21 ex_21 => ?_)
                  have zrp1 := z_rng p1
                  have zrp4 := z_rng p4
                  have zx_21 : x_21.toInt = p1.toInt + p4.toInt := by rw [ex_21]; exact zl_add (Int32.toInt_toInt64 _) (Int32.toInt_toInt64 _) (by omega) (by omega)
                  refine lv_aload_n hx hb dX12_paste_83 rfl (lv_at hl 0 rfl) ?_
                  refine va_get (D := D) (ci := 12) (v := .ref m2) (C := RX12) (T := TX12) (N := 42) hx hb hts iT_X12 hown hK hP 0 rfl rfl 2 (by decide) (hts _ tw_6_55) (fun _ h9 => h9) rfl dX12_paste_84 ?_
                  refine lv_iload_n hx hb dX12_paste_87 rfl (lv_at hl 1 rfl) ?_
                  refine va_iald hx hb hK hP 2 0 rfl rfl (z_in (by omega) (by omega)) dX12_paste_88 ?_
                  refine lv_topi (fun x_22 ex_22 => ?_)
                  have zx_22r0 : 0 ≤ x_22.toInt ∧ x_22.toInt ≤ 60 := by rw [ex_22]; exact PR.ld hp_f2_0 (by omega) (by omega) (by omega)
                  refine lv_i2l (v := x_22.toInt64) hx hb dX12_paste_89 rfl ?_
                  refine W.lcmp hx hb dX12_paste_90 ?_
                  refine lv_if_gt (tgt := 112) hx hb dX12_paste_91 (by decide) (fun h_23 => ?_) (fun h_23 => ?_)
                  · skip
                    have zh_23 : x_22.toInt < x_21.toInt := zL_gt h_23 rfl (Int32.toInt_toInt64 _)
                    refine lv_bipush (v := (-7)) hx hb dX12_paste_112 (by decide) ?_
                    obtain ⟨hP9, hD9⟩ := sub2 hP hD (ws' := [(mo, .inr (12, [.int 0, .ref m1, .ref m2, .ref m3, .ref m4, .ref m5, .int v6, .int v7, .int v8, .int v9, .int v10, .long v11, .int v12, .int v13, .int v14, .int v15, .ref m16, .ref m17, .ref m18, .ref m19, .ref m20, .ref m21, .ref m22, .ref m23, .int v24, .ref m25, .ref m26, .ref m27, .ref m28, .ref m29, .int v30, .ref m31, .ref m32, .ref m33, .int v34, .int v35, .int v36, .ref m37, .ref m38, .ref m39, .ref m40, .long v41])), (m1, .inl (k 0, 4, .inl f1)), (m2, .inl (k 0, 4, .inl f2)), (m3, .inl (k 2, 240, .inr (.inl f3))), (m4, .inl (k 2, 60, .inr (.inl f4)))]) [0, 1, 2, 3, 4] (by decide +kernel) rfl
                    exact W.iret (v := (-7)) hx hb hr (fun tZ ht hW => ⟨⟨(-7), (0, f3, f4), rfl, ⟨(show (-8) ≤ (-7) ∧ (-7) ≤ 0 from by omega), (show 0 ≤ 0 ∧ 0 ≤ 0 from by omega), (Or.inr (Or.inr (Or.inr (Or.inl ⟨show (0 ≤ p0.toInt ∧ p0.toInt ≤ 3) ∧ 0 ≤ p2.toInt ∧ p2.toInt ≤ 3 from by omega, rfl, ⟨(show ¬ f1 p0.toNatClampNeg = -1 from by rw [← ex_11]; exact h_12), (show ¬ f1 p2.toNatClampNeg = -1 from by rw [← ex_13]; exact h_14)⟩, (show f1 p0.toNatClampNeg = f1 p2.toNatClampNeg from by rw [← ex_11, ← ex_13]; exact h_17), show p1.toInt < 0 ∨ p3.toInt < 0 ∨ p4.toInt < 0 ∨ (f2 p0.toNatClampNeg).toInt < p1.toInt + p4.toInt ∨ (f2 p2.toNatClampNeg).toInt < p3.toInt + p4.toInt from by have q7p0 := congrArg Int32.toInt ex_22; omega⟩))))⟩, by rw [ht]; exact hP9, va_K.moved hW.alike hK, hD9⟩, hS.F ht⟩) hS.2.2 dX12_paste_114
                  · skip
                    have zh_23 : x_21.toInt ≤ x_22.toInt := zL_ngt h_23 rfl (Int32.toInt_toInt64 _)
                    refine lv_iload hx hb dX12_paste_94 (lv_at hl 4 rfl) ?_
                    refine lv_i2l (v := p3.toInt64) hx hb dX12_paste_96 rfl ?_
                    refine lv_iload hx hb dX12_paste_97 (lv_at hl 5 rfl) ?_
                    refine lv_i2l (v := p4.toInt64) hx hb dX12_paste_99 rfl ?_
                    refine lv_ladd hx hb dX12_paste_100 ?_
                    refine lv_topl (fun x_24 ex_24 => ?_)
                    have zrp3 := z_rng p3
                    have zx_24 : x_24.toInt = p3.toInt + p4.toInt := by rw [ex_24]; exact zl_add (Int32.toInt_toInt64 _) (Int32.toInt_toInt64 _) (by omega) (by omega)
                    refine lv_aload_n hx hb dX12_paste_101 rfl (lv_at hl 0 rfl) ?_
                    refine va_get (D := D) (ci := 12) (v := .ref m2) (C := RX12) (T := TX12) (N := 42) hx hb hts iT_X12 hown hK hP 0 rfl rfl 2 (by decide) (hts _ tw_6_55) (fun _ h9 => h9) rfl dX12_paste_102 ?_
                    refine lv_iload_n hx hb dX12_paste_105 rfl (lv_at hl 3 rfl) ?_
                    refine va_iald hx hb hK hP 2 0 rfl rfl (z_in (by omega) (by omega)) dX12_paste_106 ?_
                    refine lv_topi (fun x_25 ex_25 => ?_)
                    have zx_25r0 : 0 ≤ x_25.toInt ∧ x_25.toInt ≤ 60 := by rw [ex_25]; exact PR.ld hp_f2_0 (by omega) (by omega) (by omega)
                    refine lv_i2l (v := x_25.toInt64) hx hb dX12_paste_107 rfl ?_
                    refine W.lcmp hx hb dX12_paste_108 ?_
                    refine lv_if_le (tgt := 115) hx hb dX12_paste_109 (by decide) (fun h_26 => ?_) (fun h_26 => ?_)
                    · skip
                      have zh_26 : x_24.toInt ≤ x_25.toInt := zL_le h_26 rfl (Int32.toInt_toInt64 _)
                      refine lv_iconst (v := 0) hx hb dX12_paste_115 (by decide) ?_
                      refine lv_istore (lv' := [(6, .int 0), (0, .ref mo), (1, .int p0), (2, .int p1), (3, .int p2), (4, .int p3), (5, .int p4)]) hx hb dX12_paste_116 hl (by decide) rfl (fun ls hl => ?_)
                      refine loop_r (Wg := fun H locs ls => W p l e _ s m _ below meth c H locs _ _ _ (F0 m 118 ls [])) (fun n9 H locs ls => ∃ (L118l6 : Int32) (L118a4 : Nat → Int64), n9 = (60 - L118l6.toInt).toNat ∧ (0 ≤ L118l6.toInt ∧ L118l6.toInt ≤ 60) ∧ va_P D vwCl [(mo, .inr (12, [.int 0, .ref m1, .ref m2, .ref m3, .ref m4, .ref m5, .int v6, .int v7, .int v8, .int v9, .int v10, .long v11, .int v12, .int v13, .int v14, .int v15, .ref m16, .ref m17, .ref m18, .ref m19, .ref m20, .ref m21, .ref m22, .ref m23, .int v24, .ref m25, .ref m26, .ref m27, .ref m28, .ref m29, .int v30, .ref m31, .ref m32, .ref m33, .int v34, .int v35, .int v36, .ref m37, .ref m38, .ref m39, .ref m40, .long v41])), (m1, .inl (k 0, 4, .inl f1)), (m2, .inl (k 0, 4, .inl f2)), (m3, .inl (k 2, 240, .inr (.inl f3))), (m4, .inl (k 2, 60, .inr (.inl L118a4)))] H ∧ va_D A [(mo, .inr (12, [.int 0, .ref m1, .ref m2, .ref m3, .ref m4, .ref m5, .int v6, .int v7, .int v8, .int v9, .int v10, .long v11, .int v12, .int v13, .int v14, .int v15, .ref m16, .ref m17, .ref m18, .ref m19, .ref m20, .ref m21, .ref m22, .ref m23, .int v24, .ref m25, .ref m26, .ref m27, .ref m28, .ref m29, .int v30, .ref m31, .ref m32, .ref m33, .int v34, .int v35, .int v36, .ref m37, .ref m38, .ref m39, .ref m40, .long v41])), (m1, .inl (k 0, 4, .inl f1)), (m2, .inl (k 0, 4, .inl f2)), (m3, .inl (k 2, 240, .inr (.inl f3))), (m4, .inl (k 2, 60, .inr (.inl L118a4)))] ∧ va_S A s.heap H locs ∧ lv_has ls 7 [(0, .ref mo), (1, .int p0), (2, .int p1), (3, .int p2), (4, .int p3), (5, .int p4), (6, .int L118l6)]) (fun n9 H locs ls hI ih_27 => ?_) _ _ _ _ ⟨0, f4, rfl, (show 0 ≤ 0 ∧ 0 ≤ 60 from by omega), hP.sub (ws' := [(mo, .inr (12, [.int 0, .ref m1, .ref m2, .ref m3, .ref m4, .ref m5, .int v6, .int v7, .int v8, .int v9, .int v10, .long v11, .int v12, .int v13, .int v14, .int v15, .ref m16, .ref m17, .ref m18, .ref m19, .ref m20, .ref m21, .ref m22, .ref m23, .int v24, .ref m25, .ref m26, .ref m27, .ref m28, .ref m29, .int v30, .ref m31, .ref m32, .ref m33, .int v34, .int v35, .int v36, .ref m37, .ref m38, .ref m39, .ref m40, .long v41])), (m1, .inl (k 0, 4, .inl f1)), (m2, .inl (k 0, 4, .inl f2)), (m3, .inl (k 2, 240, .inr (.inl f3))), (m4, .inl (k 2, 60, .inr (.inl f4)))]) [0, 1, 2, 3, 4] rfl, hD.sub (ws' := [(mo, .inr (12, [.int 0, .ref m1, .ref m2, .ref m3, .ref m4, .ref m5, .int v6, .int v7, .int v8, .int v9, .int v10, .long v11, .int v12, .int v13, .int v14, .int v15, .ref m16, .ref m17, .ref m18, .ref m19, .ref m20, .ref m21, .ref m22, .ref m23, .int v24, .ref m25, .ref m26, .ref m27, .ref m28, .ref m29, .int v30, .ref m31, .ref m32, .ref m33, .int v34, .int v35, .int v36, .ref m37, .ref m38, .ref m39, .ref m40, .long v41])), (m1, .inl (k 0, 4, .inl f1)), (m2, .inl (k 0, 4, .inl f2)), (m3, .inl (k 2, 240, .inr (.inl f3))), (m4, .inl (k 2, 60, .inr (.inl f4)))]) [0, 1, 2, 3, 4] (by decide +kernel) rfl, hS, lv_sub hl [1, 2, 3, 4, 5, 6, 0] rfl⟩
                      clear hP hD hS hl
                      obtain ⟨L118l6, L118a4, en_28, zL118l6, hP, hD, hS, hl⟩ := hI
                      refine lv_iload hx hb dX12_paste_118 (lv_at hl 6 rfl) ?_
                      refine lv_iload hx hb dX12_paste_120 (lv_at hl 5 rfl) ?_
                      refine lv_icmp_ge (tgt := 152) hx hb dX12_paste_122 (by decide) (fun h_29 => ?_) (fun h_29 => ?_)
                      · skip
                        have zh_29 : p4.toInt ≤ L118l6.toInt := z_le h_29
                        refine lv_iconst (v := 0) hx hb dX12_paste_152 (by decide) ?_
                        refine lv_istore (lv' := [(6, .int 0), (0, .ref mo), (1, .int p0), (2, .int p1), (3, .int p2), (4, .int p3), (5, .int p4)]) hx hb dX12_paste_153 hl (by decide) rfl (fun ls hl => ?_)
                        refine loop_r (Wg := fun H locs ls => W p l e _ s m _ below meth c H locs _ _ _ (F0 m 155 ls [])) (fun n9 H locs ls => ∃ (L155l6 : Int32) (L155a3 : Nat → Int64), n9 = (60 - L155l6.toInt).toNat ∧ (0 ≤ L155l6.toInt ∧ L155l6.toInt ≤ 60) ∧ va_P D vwCl [(mo, .inr (12, [.int 0, .ref m1, .ref m2, .ref m3, .ref m4, .ref m5, .int v6, .int v7, .int v8, .int v9, .int v10, .long v11, .int v12, .int v13, .int v14, .int v15, .ref m16, .ref m17, .ref m18, .ref m19, .ref m20, .ref m21, .ref m22, .ref m23, .int v24, .ref m25, .ref m26, .ref m27, .ref m28, .ref m29, .int v30, .ref m31, .ref m32, .ref m33, .int v34, .int v35, .int v36, .ref m37, .ref m38, .ref m39, .ref m40, .long v41])), (m1, .inl (k 0, 4, .inl f1)), (m2, .inl (k 0, 4, .inl f2)), (m3, .inl (k 2, 240, .inr (.inl L155a3))), (m4, .inl (k 2, 60, .inr (.inl L118a4)))] H ∧ va_D A [(mo, .inr (12, [.int 0, .ref m1, .ref m2, .ref m3, .ref m4, .ref m5, .int v6, .int v7, .int v8, .int v9, .int v10, .long v11, .int v12, .int v13, .int v14, .int v15, .ref m16, .ref m17, .ref m18, .ref m19, .ref m20, .ref m21, .ref m22, .ref m23, .int v24, .ref m25, .ref m26, .ref m27, .ref m28, .ref m29, .int v30, .ref m31, .ref m32, .ref m33, .int v34, .int v35, .int v36, .ref m37, .ref m38, .ref m39, .ref m40, .long v41])), (m1, .inl (k 0, 4, .inl f1)), (m2, .inl (k 0, 4, .inl f2)), (m3, .inl (k 2, 240, .inr (.inl L155a3))), (m4, .inl (k 2, 60, .inr (.inl L118a4)))] ∧ va_S A s.heap H locs ∧ lv_has ls 7 [(0, .ref mo), (1, .int p0), (2, .int p1), (3, .int p2), (4, .int p3), (5, .int p4), (6, .int L155l6)]) (fun n9 H locs ls hI ih_30 => ?_) _ _ _ _ ⟨0, f3, rfl, (show 0 ≤ 0 ∧ 0 ≤ 60 from by omega), hP.sub (ws' := [(mo, .inr (12, [.int 0, .ref m1, .ref m2, .ref m3, .ref m4, .ref m5, .int v6, .int v7, .int v8, .int v9, .int v10, .long v11, .int v12, .int v13, .int v14, .int v15, .ref m16, .ref m17, .ref m18, .ref m19, .ref m20, .ref m21, .ref m22, .ref m23, .int v24, .ref m25, .ref m26, .ref m27, .ref m28, .ref m29, .int v30, .ref m31, .ref m32, .ref m33, .int v34, .int v35, .int v36, .ref m37, .ref m38, .ref m39, .ref m40, .long v41])), (m1, .inl (k 0, 4, .inl f1)), (m2, .inl (k 0, 4, .inl f2)), (m3, .inl (k 2, 240, .inr (.inl f3))), (m4, .inl (k 2, 60, .inr (.inl L118a4)))]) [0, 1, 2, 3, 4] rfl, hD.sub (ws' := [(mo, .inr (12, [.int 0, .ref m1, .ref m2, .ref m3, .ref m4, .ref m5, .int v6, .int v7, .int v8, .int v9, .int v10, .long v11, .int v12, .int v13, .int v14, .int v15, .ref m16, .ref m17, .ref m18, .ref m19, .ref m20, .ref m21, .ref m22, .ref m23, .int v24, .ref m25, .ref m26, .ref m27, .ref m28, .ref m29, .int v30, .ref m31, .ref m32, .ref m33, .int v34, .int v35, .int v36, .ref m37, .ref m38, .ref m39, .ref m40, .long v41])), (m1, .inl (k 0, 4, .inl f1)), (m2, .inl (k 0, 4, .inl f2)), (m3, .inl (k 2, 240, .inr (.inl f3))), (m4, .inl (k 2, 60, .inr (.inl L118a4)))]) [0, 1, 2, 3, 4] (by decide +kernel) rfl, hS, lv_sub hl [1, 2, 3, 4, 5, 6, 0] rfl⟩
                        clear hP hD hS hl
                        obtain ⟨L155l6, L155a3, en_31, zL155l6, hP, hD, hS, hl⟩ := hI
                        refine lv_iload hx hb dX12_paste_155 (lv_at hl 6 rfl) ?_
                        refine lv_iload hx hb dX12_paste_157 (lv_at hl 5 rfl) ?_
                        refine lv_icmp_ge (tgt := 190) hx hb dX12_paste_159 (by decide) (fun h_32 => ?_) (fun h_32 => ?_)
                        · skip
                          have zh_32 : p4.toInt ≤ L155l6.toInt := z_le h_32
                          refine lv_iconst (v := 0) hx hb dX12_paste_190 (by decide) ?_
                          obtain ⟨hP9, hD9⟩ := sub2 hP hD (ws' := [(mo, .inr (12, [.int 0, .ref m1, .ref m2, .ref m3, .ref m4, .ref m5, .int v6, .int v7, .int v8, .int v9, .int v10, .long v11, .int v12, .int v13, .int v14, .int v15, .ref m16, .ref m17, .ref m18, .ref m19, .ref m20, .ref m21, .ref m22, .ref m23, .int v24, .ref m25, .ref m26, .ref m27, .ref m28, .ref m29, .int v30, .ref m31, .ref m32, .ref m33, .int v34, .int v35, .int v36, .ref m37, .ref m38, .ref m39, .ref m40, .long v41])), (m1, .inl (k 0, 4, .inl f1)), (m2, .inl (k 0, 4, .inl f2)), (m3, .inl (k 2, 240, .inr (.inl L155a3))), (m4, .inl (k 2, 60, .inr (.inl L118a4)))]) [0, 1, 2, 3, 4] (by decide +kernel) rfl
                          exact W.iret (v := 0) hx hb hr (fun tZ ht hW => ⟨⟨0, (0, L155a3, L118a4), rfl, ⟨(show (-8) ≤ 0 ∧ 0 ≤ 0 from by omega), (show 0 ≤ 0 ∧ 0 ≤ 0 from by omega), (Or.inr (Or.inr (Or.inr (Or.inr ⟨show (0 ≤ p0.toInt ∧ p0.toInt ≤ 3) ∧ 0 ≤ p2.toInt ∧ p2.toInt ≤ 3 from by omega, rfl, ⟨(show ¬ f1 p0.toNatClampNeg = -1 from by rw [← ex_11]; exact h_12), (show ¬ f1 p2.toNatClampNeg = -1 from by rw [← ex_13]; exact h_14)⟩, (show f1 p0.toNatClampNeg = f1 p2.toNatClampNeg from by rw [← ex_11, ← ex_13]; exact h_17), show 0 ≤ p1.toInt from by omega, show 0 ≤ p3.toInt from by omega, show 0 ≤ p4.toInt from by omega, show p1.toInt + p4.toInt ≤ (f2 p0.toNatClampNeg).toInt from by have q7p0 := congrArg Int32.toInt ex_22; have q7p2 := congrArg Int32.toInt ex_25; omega, show p3.toInt + p4.toInt ≤ (f2 p2.toNatClampNeg).toInt from by have q7p0 := congrArg Int32.toInt ex_22; have q7p2 := congrArg Int32.toInt ex_25; omega⟩))))⟩, by rw [ht]; exact hP9, va_K.moved hW.alike hK, hD9⟩, hS.F ht⟩) hS.2.2 dX12_paste_191
                        · skip
                          have zh_32 : L155l6.toInt < p4.toInt := z_nle h_32
                          refine lv_aload_n hx hb dX12_paste_162 rfl (lv_at hl 0 rfl) ?_
                          refine va_get (D := D) (ci := 12) (v := .ref m3) (C := RX12) (T := TX12) (N := 42) hx hb hts iT_X12 hown hK hP 0 rfl rfl 3 (by decide) (hts _ tw_6_56) (fun _ h9 => h9) rfl dX12_paste_163 ?_
                          refine lv_bipush (v := 60) hx hb dX12_paste_166 (by decide) ?_
                          refine lv_iload_n hx hb dX12_paste_168 rfl (lv_at hl 3 rfl) ?_
                          refine lv_imul hx hb dX12_paste_169 ?_
                          refine lv_topi (fun x_33 ex_33 => ?_)
                          have zx_33 : x_33.toInt = 60 * p2.toInt := by rw [ex_33]; exact z_mul rfl rfl (by omega) (by omega)
                          refine lv_iload hx hb dX12_paste_170 (lv_at hl 4 rfl) ?_
                          refine lv_iadd hx hb dX12_paste_172 ?_
                          refine lv_topi (fun x_34 ex_34 => ?_)
                          have zx_34 : x_34.toInt = x_33.toInt + p3.toInt := by rw [ex_34]; exact z_add rfl rfl (by omega) (by omega)
                          refine lv_iload hx hb dX12_paste_173 (lv_at hl 6 rfl) ?_
                          refine lv_iadd hx hb dX12_paste_175 ?_
                          refine lv_topi (fun x_35 ex_35 => ?_)
                          have zx_35 : x_35.toInt = x_34.toInt + L155l6.toInt := by rw [ex_35]; exact z_add rfl rfl (by omega) (by omega)
                          refine lv_aload_n hx hb dX12_paste_176 rfl (lv_at hl 0 rfl) ?_
                          refine va_get (D := D) (ci := 12) (v := .ref m4) (C := RX12) (T := TX12) (N := 42) hx hb hts iT_X12 hown hK hP 0 rfl rfl 4 (by decide) (hts _ tw_6_57) (fun _ h9 => h9) rfl dX12_paste_177 ?_
                          refine lv_iload hx hb dX12_paste_180 (lv_at hl 6 rfl) ?_
                          refine va_lald hx hb hK hP 4 2 rfl rfl (z_in (by omega) (by omega)) dX12_paste_182 ?_
                          refine lv_topl (fun x_36 ex_36 => ?_)
                          refine va_last hx hb hK hP hD hS 3 2 rfl rfl (z_in (by omega) (by omega)) dX12_paste_183 (fun H locs hP hD hS => ?_)
                          obtain ⟨g_37, eg_37⟩ : ∃ z : Nat → Int64, vp_updL L155a3 x_35.toNatClampNeg x_36 = z := ⟨_, rfl⟩
                          have hP : va_P D vwCl [(mo, .inr (12, [.int 0, .ref m1, .ref m2, .ref m3, .ref m4, .ref m5, .int v6, .int v7, .int v8, .int v9, .int v10, .long v11, .int v12, .int v13, .int v14, .int v15, .ref m16, .ref m17, .ref m18, .ref m19, .ref m20, .ref m21, .ref m22, .ref m23, .int v24, .ref m25, .ref m26, .ref m27, .ref m28, .ref m29, .int v30, .ref m31, .ref m32, .ref m33, .int v34, .int v35, .int v36, .ref m37, .ref m38, .ref m39, .ref m40, .long v41])), (m1, .inl (k 0, 4, .inl f1)), (m2, .inl (k 0, 4, .inl f2)), (m3, .inl (k 2, 240, .inr (.inl (vp_updL L155a3 x_35.toNatClampNeg x_36)))), (m4, .inl (k 2, 60, .inr (.inl L118a4)))] H := hP
                          have hD : va_D A [(mo, .inr (12, [.int 0, .ref m1, .ref m2, .ref m3, .ref m4, .ref m5, .int v6, .int v7, .int v8, .int v9, .int v10, .long v11, .int v12, .int v13, .int v14, .int v15, .ref m16, .ref m17, .ref m18, .ref m19, .ref m20, .ref m21, .ref m22, .ref m23, .int v24, .ref m25, .ref m26, .ref m27, .ref m28, .ref m29, .int v30, .ref m31, .ref m32, .ref m33, .int v34, .int v35, .int v36, .ref m37, .ref m38, .ref m39, .ref m40, .long v41])), (m1, .inl (k 0, 4, .inl f1)), (m2, .inl (k 0, 4, .inl f2)), (m3, .inl (k 2, 240, .inr (.inl (vp_updL L155a3 x_35.toNatClampNeg x_36)))), (m4, .inl (k 2, 60, .inr (.inl L118a4)))] := hD
                          rw [eg_37] at hP hD
                          obtain ⟨x_38, ex_38⟩ : ∃ y : Int32, y = L155l6 + 1 := ⟨_, rfl⟩
                          have zx_38 : x_38.toInt = L155l6.toInt + 1 := by rw [ex_38]; exact z_add rfl rfl (by omega) (by omega)
                          refine lv_iinc (v := x_38) (lv' := [(6, .int x_38), (0, .ref mo), (1, .int p0), (2, .int p1), (3, .int p2), (4, .int p3), (5, .int p4)]) hx hb dX12_paste_184 hl (k := 6) rfl (by rw [ex_38]; rfl) (by decide) rfl (fun ls hl => ?_)
                          refine lv_goto (tgt := 155) hx hb dX12_paste_187 (by decide) ?_
                          exact ih_30 _ _ _ _ (by omega) ⟨x_38, g_37, rfl, (show 0 ≤ x_38.toInt ∧ x_38.toInt ≤ 60 from by omega), hP.sub (ws' := [(mo, .inr (12, [.int 0, .ref m1, .ref m2, .ref m3, .ref m4, .ref m5, .int v6, .int v7, .int v8, .int v9, .int v10, .long v11, .int v12, .int v13, .int v14, .int v15, .ref m16, .ref m17, .ref m18, .ref m19, .ref m20, .ref m21, .ref m22, .ref m23, .int v24, .ref m25, .ref m26, .ref m27, .ref m28, .ref m29, .int v30, .ref m31, .ref m32, .ref m33, .int v34, .int v35, .int v36, .ref m37, .ref m38, .ref m39, .ref m40, .long v41])), (m1, .inl (k 0, 4, .inl f1)), (m2, .inl (k 0, 4, .inl f2)), (m3, .inl (k 2, 240, .inr (.inl g_37))), (m4, .inl (k 2, 60, .inr (.inl L118a4)))]) [0, 1, 2, 3, 4] rfl, hD.sub (ws' := [(mo, .inr (12, [.int 0, .ref m1, .ref m2, .ref m3, .ref m4, .ref m5, .int v6, .int v7, .int v8, .int v9, .int v10, .long v11, .int v12, .int v13, .int v14, .int v15, .ref m16, .ref m17, .ref m18, .ref m19, .ref m20, .ref m21, .ref m22, .ref m23, .int v24, .ref m25, .ref m26, .ref m27, .ref m28, .ref m29, .int v30, .ref m31, .ref m32, .ref m33, .int v34, .int v35, .int v36, .ref m37, .ref m38, .ref m39, .ref m40, .long v41])), (m1, .inl (k 0, 4, .inl f1)), (m2, .inl (k 0, 4, .inl f2)), (m3, .inl (k 2, 240, .inr (.inl g_37))), (m4, .inl (k 2, 60, .inr (.inl L118a4)))]) [0, 1, 2, 3, 4] (by decide +kernel) rfl, hS, lv_sub hl [1, 2, 3, 4, 5, 6, 0] rfl⟩
                      · skip
                        have zh_29 : L118l6.toInt < p4.toInt := z_nle h_29
                        refine lv_aload_n hx hb dX12_paste_125 rfl (lv_at hl 0 rfl) ?_
                        refine va_get (D := D) (ci := 12) (v := .ref m4) (C := RX12) (T := TX12) (N := 42) hx hb hts iT_X12 hown hK hP 0 rfl rfl 4 (by decide) (hts _ tw_6_57) (fun _ h9 => h9) rfl dX12_paste_126 ?_
                        refine lv_iload hx hb dX12_paste_129 (lv_at hl 6 rfl) ?_
                        refine lv_aload_n hx hb dX12_paste_131 rfl (lv_at hl 0 rfl) ?_
                        refine va_get (D := D) (ci := 12) (v := .ref m3) (C := RX12) (T := TX12) (N := 42) hx hb hts iT_X12 hown hK hP 0 rfl rfl 3 (by decide) (hts _ tw_6_56) (fun _ h9 => h9) rfl dX12_paste_132 ?_
                        refine lv_bipush (v := 60) hx hb dX12_paste_135 (by decide) ?_
                        refine lv_iload_n hx hb dX12_paste_137 rfl (lv_at hl 1 rfl) ?_
                        refine lv_imul hx hb dX12_paste_138 ?_
                        refine lv_topi (fun x_39 ex_39 => ?_)
                        have zx_39 : x_39.toInt = 60 * p0.toInt := by rw [ex_39]; exact z_mul rfl rfl (by omega) (by omega)
                        refine lv_iload_n hx hb dX12_paste_139 rfl (lv_at hl 2 rfl) ?_
                        refine lv_iadd hx hb dX12_paste_140 ?_
                        refine lv_topi (fun x_40 ex_40 => ?_)
                        have zx_40 : x_40.toInt = x_39.toInt + p1.toInt := by rw [ex_40]; exact z_add rfl rfl (by omega) (by omega)
                        refine lv_iload hx hb dX12_paste_141 (lv_at hl 6 rfl) ?_
                        refine lv_iadd hx hb dX12_paste_143 ?_
                        refine lv_topi (fun x_41 ex_41 => ?_)
                        have zx_41 : x_41.toInt = x_40.toInt + L118l6.toInt := by rw [ex_41]; exact z_add rfl rfl (by omega) (by omega)
                        refine va_lald hx hb hK hP 3 2 rfl rfl (z_in (by omega) (by omega)) dX12_paste_144 ?_
                        refine lv_topl (fun x_42 ex_42 => ?_)
                        refine va_last hx hb hK hP hD hS 4 2 rfl rfl (z_in (by omega) (by omega)) dX12_paste_145 (fun H locs hP hD hS => ?_)
                        obtain ⟨g_43, eg_43⟩ : ∃ z : Nat → Int64, vp_updL L118a4 L118l6.toNatClampNeg x_42 = z := ⟨_, rfl⟩
                        have hP : va_P D vwCl [(mo, .inr (12, [.int 0, .ref m1, .ref m2, .ref m3, .ref m4, .ref m5, .int v6, .int v7, .int v8, .int v9, .int v10, .long v11, .int v12, .int v13, .int v14, .int v15, .ref m16, .ref m17, .ref m18, .ref m19, .ref m20, .ref m21, .ref m22, .ref m23, .int v24, .ref m25, .ref m26, .ref m27, .ref m28, .ref m29, .int v30, .ref m31, .ref m32, .ref m33, .int v34, .int v35, .int v36, .ref m37, .ref m38, .ref m39, .ref m40, .long v41])), (m1, .inl (k 0, 4, .inl f1)), (m2, .inl (k 0, 4, .inl f2)), (m3, .inl (k 2, 240, .inr (.inl f3))), (m4, .inl (k 2, 60, .inr (.inl (vp_updL L118a4 L118l6.toNatClampNeg x_42))))] H := hP
                        have hD : va_D A [(mo, .inr (12, [.int 0, .ref m1, .ref m2, .ref m3, .ref m4, .ref m5, .int v6, .int v7, .int v8, .int v9, .int v10, .long v11, .int v12, .int v13, .int v14, .int v15, .ref m16, .ref m17, .ref m18, .ref m19, .ref m20, .ref m21, .ref m22, .ref m23, .int v24, .ref m25, .ref m26, .ref m27, .ref m28, .ref m29, .int v30, .ref m31, .ref m32, .ref m33, .int v34, .int v35, .int v36, .ref m37, .ref m38, .ref m39, .ref m40, .long v41])), (m1, .inl (k 0, 4, .inl f1)), (m2, .inl (k 0, 4, .inl f2)), (m3, .inl (k 2, 240, .inr (.inl f3))), (m4, .inl (k 2, 60, .inr (.inl (vp_updL L118a4 L118l6.toNatClampNeg x_42))))] := hD
                        rw [eg_43] at hP hD
                        obtain ⟨x_44, ex_44⟩ : ∃ y : Int32, y = L118l6 + 1 := ⟨_, rfl⟩
                        have zx_44 : x_44.toInt = L118l6.toInt + 1 := by rw [ex_44]; exact z_add rfl rfl (by omega) (by omega)
                        refine lv_iinc (v := x_44) (lv' := [(6, .int x_44), (0, .ref mo), (1, .int p0), (2, .int p1), (3, .int p2), (4, .int p3), (5, .int p4)]) hx hb dX12_paste_146 hl (k := 6) rfl (by rw [ex_44]; rfl) (by decide) rfl (fun ls hl => ?_)
                        refine lv_goto (tgt := 118) hx hb dX12_paste_149 (by decide) ?_
                        exact ih_27 _ _ _ _ (by omega) ⟨x_44, g_43, rfl, (show 0 ≤ x_44.toInt ∧ x_44.toInt ≤ 60 from by omega), hP.sub (ws' := [(mo, .inr (12, [.int 0, .ref m1, .ref m2, .ref m3, .ref m4, .ref m5, .int v6, .int v7, .int v8, .int v9, .int v10, .long v11, .int v12, .int v13, .int v14, .int v15, .ref m16, .ref m17, .ref m18, .ref m19, .ref m20, .ref m21, .ref m22, .ref m23, .int v24, .ref m25, .ref m26, .ref m27, .ref m28, .ref m29, .int v30, .ref m31, .ref m32, .ref m33, .int v34, .int v35, .int v36, .ref m37, .ref m38, .ref m39, .ref m40, .long v41])), (m1, .inl (k 0, 4, .inl f1)), (m2, .inl (k 0, 4, .inl f2)), (m3, .inl (k 2, 240, .inr (.inl f3))), (m4, .inl (k 2, 60, .inr (.inl g_43)))]) [0, 1, 2, 3, 4] rfl, hD.sub (ws' := [(mo, .inr (12, [.int 0, .ref m1, .ref m2, .ref m3, .ref m4, .ref m5, .int v6, .int v7, .int v8, .int v9, .int v10, .long v11, .int v12, .int v13, .int v14, .int v15, .ref m16, .ref m17, .ref m18, .ref m19, .ref m20, .ref m21, .ref m22, .ref m23, .int v24, .ref m25, .ref m26, .ref m27, .ref m28, .ref m29, .int v30, .ref m31, .ref m32, .ref m33, .int v34, .int v35, .int v36, .ref m37, .ref m38, .ref m39, .ref m40, .long v41])), (m1, .inl (k 0, 4, .inl f1)), (m2, .inl (k 0, 4, .inl f2)), (m3, .inl (k 2, 240, .inr (.inl f3))), (m4, .inl (k 2, 60, .inr (.inl g_43)))]) [0, 1, 2, 3, 4] (by decide +kernel) rfl, hS, lv_sub hl [1, 2, 3, 4, 5, 6, 0] rfl⟩
                    · skip
                      have zh_26 : x_25.toInt < x_24.toInt := zL_nle h_26 rfl (Int32.toInt_toInt64 _)
                      refine lv_bipush (v := (-7)) hx hb dX12_paste_112 (by decide) ?_
                      obtain ⟨hP9, hD9⟩ := sub2 hP hD (ws' := [(mo, .inr (12, [.int 0, .ref m1, .ref m2, .ref m3, .ref m4, .ref m5, .int v6, .int v7, .int v8, .int v9, .int v10, .long v11, .int v12, .int v13, .int v14, .int v15, .ref m16, .ref m17, .ref m18, .ref m19, .ref m20, .ref m21, .ref m22, .ref m23, .int v24, .ref m25, .ref m26, .ref m27, .ref m28, .ref m29, .int v30, .ref m31, .ref m32, .ref m33, .int v34, .int v35, .int v36, .ref m37, .ref m38, .ref m39, .ref m40, .long v41])), (m1, .inl (k 0, 4, .inl f1)), (m2, .inl (k 0, 4, .inl f2)), (m3, .inl (k 2, 240, .inr (.inl f3))), (m4, .inl (k 2, 60, .inr (.inl f4)))]) [0, 1, 2, 3, 4] (by decide +kernel) rfl
                      exact W.iret (v := (-7)) hx hb hr (fun tZ ht hW => ⟨⟨(-7), (0, f3, f4), rfl, ⟨(show (-8) ≤ (-7) ∧ (-7) ≤ 0 from by omega), (show 0 ≤ 0 ∧ 0 ≤ 0 from by omega), (Or.inr (Or.inr (Or.inr (Or.inl ⟨show (0 ≤ p0.toInt ∧ p0.toInt ≤ 3) ∧ 0 ≤ p2.toInt ∧ p2.toInt ≤ 3 from by omega, rfl, ⟨(show ¬ f1 p0.toNatClampNeg = -1 from by rw [← ex_11]; exact h_12), (show ¬ f1 p2.toNatClampNeg = -1 from by rw [← ex_13]; exact h_14)⟩, (show f1 p0.toNatClampNeg = f1 p2.toNatClampNeg from by rw [← ex_11, ← ex_13]; exact h_17), show p1.toInt < 0 ∨ p3.toInt < 0 ∨ p4.toInt < 0 ∨ (f2 p0.toNatClampNeg).toInt < p1.toInt + p4.toInt ∨ (f2 p2.toNatClampNeg).toInt < p3.toInt + p4.toInt from by have q7p0 := congrArg Int32.toInt ex_22; have q7p2 := congrArg Int32.toInt ex_25; omega⟩))))⟩, by rw [ht]; exact hP9, va_K.moved hW.alike hK, hD9⟩, hS.F ht⟩) hS.2.2 dX12_paste_114
          · skip
            have zh_17 : ¬ x_11.toInt = x_13.toInt := z_ne h_17
            refine lv_bipush (v := (-8)) hx hb dX12_paste_60 (by decide) ?_
            obtain ⟨hP9, hD9⟩ := sub2 hP hD (ws' := [(mo, .inr (12, [.int 0, .ref m1, .ref m2, .ref m3, .ref m4, .ref m5, .int v6, .int v7, .int v8, .int v9, .int v10, .long v11, .int v12, .int v13, .int v14, .int v15, .ref m16, .ref m17, .ref m18, .ref m19, .ref m20, .ref m21, .ref m22, .ref m23, .int v24, .ref m25, .ref m26, .ref m27, .ref m28, .ref m29, .int v30, .ref m31, .ref m32, .ref m33, .int v34, .int v35, .int v36, .ref m37, .ref m38, .ref m39, .ref m40, .long v41])), (m1, .inl (k 0, 4, .inl f1)), (m2, .inl (k 0, 4, .inl f2)), (m3, .inl (k 2, 240, .inr (.inl f3))), (m4, .inl (k 2, 60, .inr (.inl f4)))]) [0, 1, 2, 3, 4] (by decide +kernel) rfl
            exact W.iret (v := (-8)) hx hb hr (fun tZ ht hW => ⟨⟨(-8), (0, f3, f4), rfl, ⟨(show (-8) ≤ (-8) ∧ (-8) ≤ 0 from by omega), (show 0 ≤ 0 ∧ 0 ≤ 0 from by omega), (Or.inr (Or.inr (Or.inl ⟨show (0 ≤ p0.toInt ∧ p0.toInt ≤ 3) ∧ 0 ≤ p2.toInt ∧ p2.toInt ≤ 3 from by omega, rfl, ⟨(show ¬ f1 p0.toNatClampNeg = -1 from by rw [← ex_11]; exact h_12), (show ¬ f1 p2.toNatClampNeg = -1 from by rw [← ex_13]; exact h_14)⟩, (show ¬ f1 p0.toNatClampNeg = f1 p2.toNatClampNeg from by rw [← ex_11, ← ex_13]; exact h_17)⟩)))⟩, by rw [ht]; exact hP9, va_K.moved hW.alike hK, hD9⟩, hS.F ht⟩) hS.2.2 dX12_paste_62
        · skip
          have zh_14 : x_13.toInt = (-1) := z_eq h_14
          refine lv_bipush (v := (-6)) hx hb dX12_paste_42 (by decide) ?_
          obtain ⟨hP9, hD9⟩ := sub2 hP hD (ws' := [(mo, .inr (12, [.int 0, .ref m1, .ref m2, .ref m3, .ref m4, .ref m5, .int v6, .int v7, .int v8, .int v9, .int v10, .long v11, .int v12, .int v13, .int v14, .int v15, .ref m16, .ref m17, .ref m18, .ref m19, .ref m20, .ref m21, .ref m22, .ref m23, .int v24, .ref m25, .ref m26, .ref m27, .ref m28, .ref m29, .int v30, .ref m31, .ref m32, .ref m33, .int v34, .int v35, .int v36, .ref m37, .ref m38, .ref m39, .ref m40, .long v41])), (m1, .inl (k 0, 4, .inl f1)), (m2, .inl (k 0, 4, .inl f2)), (m3, .inl (k 2, 240, .inr (.inl f3))), (m4, .inl (k 2, 60, .inr (.inl f4)))]) [0, 1, 2, 3, 4] (by decide +kernel) rfl
          exact W.iret (v := (-6)) hx hb hr (fun tZ ht hW => ⟨⟨(-6), (0, f3, f4), rfl, ⟨(show (-8) ≤ (-6) ∧ (-6) ≤ 0 from by omega), (show 0 ≤ 0 ∧ 0 ≤ 0 from by omega), (Or.inr (Or.inl ⟨show (0 ≤ p0.toInt ∧ p0.toInt ≤ 3) ∧ 0 ≤ p2.toInt ∧ p2.toInt ≤ 3 from by omega, rfl, fun q9 => q9.2 (show f1 p2.toNatClampNeg = -1 from by rw [← ex_13]; exact h_14)⟩))⟩, by rw [ht]; exact hP9, va_K.moved hW.alike hK, hD9⟩, hS.F ht⟩) hS.2.2 dX12_paste_44
    · skip
      have zh_10 : r_6.toInt = 0 := z_eq h_10
      refine lv_bipush (v := (-2)) hx hb dX12_paste_19 (by decide) ?_
      obtain ⟨hP9, hD9⟩ := sub2 hP hD (ws' := [(mo, .inr (12, [.int 0, .ref m1, .ref m2, .ref m3, .ref m4, .ref m5, .int v6, .int v7, .int v8, .int v9, .int v10, .long v11, .int v12, .int v13, .int v14, .int v15, .ref m16, .ref m17, .ref m18, .ref m19, .ref m20, .ref m21, .ref m22, .ref m23, .int v24, .ref m25, .ref m26, .ref m27, .ref m28, .ref m29, .int v30, .ref m31, .ref m32, .ref m33, .int v34, .int v35, .int v36, .ref m37, .ref m38, .ref m39, .ref m40, .long v41])), (m1, .inl (k 0, 4, .inl f1)), (m2, .inl (k 0, 4, .inl f2)), (m3, .inl (k 2, 240, .inr (.inl f3))), (m4, .inl (k 2, 60, .inr (.inl f4)))]) [0, 1, 2, 3, 4] (by decide +kernel) rfl
      exact W.iret (v := (-2)) hx hb hr (fun tZ ht hW => ⟨⟨(-2), (0, f3, f4), rfl, ⟨(show (-8) ≤ (-2) ∧ (-2) ≤ 0 from by omega), (show 0 ≤ 0 ∧ 0 ≤ 0 from by omega), (Or.inl ⟨rfl, show ¬ ((0 ≤ p0.toInt ∧ p0.toInt ≤ 3) ∧ 0 ≤ p2.toInt ∧ p2.toInt ≤ 3) from by omega⟩)⟩, by rw [ht]; exact hP9, va_K.moved hW.alike hK, hD9⟩, hS.F ht⟩) hS.2.2 dX12_paste_21
set_option maxHeartbeats 4000000 in
set_option maxRecDepth 100000 in
theorem c_X12_four (l : Launch) (D : va_G) (k : Nat → ClassId) (mo : Nat) (p0 : Int32) (v0 : Int32) (m1 : Nat) (m2 : Nat) (m3 : Nat) (m4 : Nat) (m5 : Nat) (v6 : Int32) (v7 : Int32) (v8 : Int32) (v9 : Int32) (v10 : Int32) (v11 : Int64) (v12 : Int32) (v13 : Int32) (v14 : Int32) (v15 : Int32) (m16 : Nat) (m17 : Nat) (m18 : Nat) (m19 : Nat) (m20 : Nat) (m21 : Nat) (m22 : Nat) (m23 : Nat) (v24 : Int32) (m25 : Nat) (m26 : Nat) (m27 : Nat) (m28 : Nat) (m29 : Nat) (v30 : Int32) (m31 : Nat) (m32 : Nat) (m33 : Nat) (v34 : Int32) (v35 : Int32) (v36 : Int32) (m37 : Nat) (m38 : Nat) (m39 : Nat) (m40 : Nat) (v41 : Int64) (f5 : Nat → Int32) (sz : Nat) (h_v6 : 0 ≤ v6.toInt ∧ v6.toInt ≤ 996) (h_v24 : 0 ≤ v24.toInt ∧ v24.toInt ≤ 1023) : Met l yX12_four (ww yX12_four cX12_four 3 none) ({ frames := 0, cells := 0, slots := 0, locals := 0 }) (Pre0 D k [(mo, .inr (12, [.int v0, .ref m1, .ref m2, .ref m3, .ref m4, .ref m5, .int v6, .int v7, .int v8, .int v9, .int v10, .long v11, .int v12, .int v13, .int v14, .int v15, .ref m16, .ref m17, .ref m18, .ref m19, .ref m20, .ref m21, .ref m22, .ref m23, .int v24, .ref m25, .ref m26, .ref m27, .ref m28, .ref m29, .int v30, .ref m31, .ref m32, .ref m33, .int v34, .int v35, .int v36, .ref m37, .ref m38, .ref m39, .ref m40, .long v41])), (m5, .inl (k 1, 1000, .inl f5))] sz [.ref mo, .int p0]) (va_Qv (fun (u : Int32 × (Nat → Int32)) => match u with | (v6z, f5z) => (4 ≤ v6z.toInt ∧ v6z.toInt ≤ 1000) ∧ (v6z.toInt = v6.toInt + 4)) (fun (u : Int32 × (Nat → Int32)) tZ => match u with | (v6z, f5z) => Bw D k (va_A [(mo, .inr (12, [.int v0, .ref m1, .ref m2, .ref m3, .ref m4, .ref m5, .int v6, .int v7, .int v8, .int v9, .int v10, .long v11, .int v12, .int v13, .int v14, .int v15, .ref m16, .ref m17, .ref m18, .ref m19, .ref m20, .ref m21, .ref m22, .ref m23, .int v24, .ref m25, .ref m26, .ref m27, .ref m28, .ref m29, .int v30, .ref m31, .ref m32, .ref m33, .int v34, .int v35, .int v36, .ref m37, .ref m38, .ref m39, .ref m40, .long v41])), (m5, .inl (k 1, 1000, .inl f5))] sz) [(mo, .inr (12, [.int v0, .ref m1, .ref m2, .ref m3, .ref m4, .ref m5, .int v6z, .int v7, .int v8, .int v9, .int v10, .long v11, .int v12, .int v13, .int v14, .int v15, .ref m16, .ref m17, .ref m18, .ref m19, .ref m20, .ref m21, .ref m22, .ref m23, .int v24, .ref m25, .ref m26, .ref m27, .ref m28, .ref m29, .int v30, .ref m31, .ref m32, .ref m33, .int v34, .int v35, .int v36, .ref m37, .ref m38, .ref m39, .ref m40, .long v41])), (m5, .inl (k 1, 1000, .inl f5z))] tZ) (va_A [(mo, .inr (12, [.int v0, .ref m1, .ref m2, .ref m3, .ref m4, .ref m5, .int v6, .int v7, .int v8, .int v9, .int v10, .long v11, .int v12, .int v13, .int v14, .int v15, .ref m16, .ref m17, .ref m18, .ref m19, .ref m20, .ref m21, .ref m22, .ref m23, .int v24, .ref m25, .ref m26, .ref m27, .ref m28, .ref m29, .int v30, .ref m31, .ref m32, .ref m33, .int v34, .int v35, .int v36, .ref m37, .ref m38, .ref m39, .ref m40, .long v41])), (m5, .inl (k 1, 1000, .inl f5))] sz)) 0 0 (va_A [(mo, .inr (12, [.int v0, .ref m1, .ref m2, .ref m3, .ref m4, .ref m5, .int v6, .int v7, .int v8, .int v9, .int v10, .long v11, .int v12, .int v13, .int v14, .int v15, .ref m16, .ref m17, .ref m18, .ref m19, .ref m20, .ref m21, .ref m22, .ref m23, .int v24, .ref m25, .ref m26, .ref m27, .ref m28, .ref m29, .int v30, .ref m31, .ref m32, .ref m33, .int v34, .int v35, .int v36, .ref m37, .ref m38, .ref m39, .ref m40, .long v41])), (m5, .inl (k 1, 1000, .inl f5))] sz) := by
  refine Met.ofW (cc := cX12_four) (maxL := 3) (ret := none) (by decide +kernel) rfl ?_
  intro p e s m args below meth c s₁ B hml hv
  obtain ⟨rfl, hsz, hP, hK, hD0, hN⟩ := hv
  have hx := B.exec
  have hb := B.bytes
  have hr := B.returns
  have hts : ∀ w ∈ TT, w.before _ s = true := fun w h => atoms_spec (ws := ww yX12_four cX12_four 3 none) B.pre w (List.mem_cons_of_mem _ h)
  have hown : s.vm.findClass RX12 = some m.cls := findClass_of_methodNamed B.named
  have hlocks := B.notSynchronized
  subst hsz
  have hD := hD0.self (sz := s.heap.size)
  generalize hAe : va_A [(mo, .inr (12, [.int v0, .ref m1, .ref m2, .ref m3, .ref m4, .ref m5, .int v6, .int v7, .int v8, .int v9, .int v10, .long v11, .int v12, .int v13, .int v14, .int v15, .ref m16, .ref m17, .ref m18, .ref m19, .ref m20, .ref m21, .ref m22, .ref m23, .int v24, .ref m25, .ref m26, .ref m27, .ref m28, .ref m29, .int v30, .ref m31, .ref m32, .ref m33, .int v34, .int v35, .int v36, .ref m37, .ref m38, .ref m39, .ref m40, .long v41])), (m5, .inl (k 1, 1000, .inl f5))] s.heap.size = A at hD ⊢
  have hA : ∀ q : Nat, s.heap.size ≤ q → A q := fun q h => by rw [← hAe]; exact Or.inr h
  have hS : va_S A s.heap s.heap [] := va_S.rf
  have hl := lv_entry ([.ref mo, .int p0]) (n := 3) (Nat.le_of_ble_eq_true rfl)
  rw [lg_entry_eq]
  generalize (lg_sl ([.ref mo, .int p0]) ++ List.replicate (3 - (lg_sl ([.ref mo, .int p0])).length) Slot.unset).toArray = ls at hl ⊢
  have hl : lv_has ls 3 [(0, .ref mo), (1, .int p0)] := hl
  refine lv_bipush (v := 24) hx hb dX12_four_0 (by decide) ?_
  refine lv_istore_n (lv' := [(2, .int 24), (0, .ref mo), (1, .int p0)]) hx hb dX12_four_2 rfl hl (by decide) rfl (fun ls hl => ?_)
  refine lv_iload_n hx hb dX12_four_3 rfl (lv_at hl 0 rfl) ?_
  refine lv_if_lt (tgt := 36) hx hb dX12_four_4 (by decide) (fun c9 => absurd c9 (by decide)) (fun _ => ?_)
  refine lv_aload_n hx hb dX12_four_7 rfl (lv_at hl 1 rfl) ?_
  refine va_get (D := D) (ci := 12) (v := .ref m5) (C := RX12) (T := TX12) (N := 42) hx hb hts iT_X12 hown hK hP 0 rfl rfl 5 (by decide) (hts _ tw_6_58) (fun _ h9 => h9) rfl dX12_four_8 ?_
  refine lv_aload_n hx hb dX12_four_11 rfl (lv_at hl 1 rfl) ?_
  refine va_get (D := D) (ci := 12) (v := .int v6) (C := RX12) (T := TX12) (N := 42) hx hb hts iT_X12 hown hK hP 0 rfl rfl 6 (by decide) (hts _ tw_6_59) (fun _ h9 => h9) rfl dX12_four_12 ?_
  refine lv_iload_n hx hb dX12_four_15 rfl (lv_at hl 2 rfl) ?_
  refine lv_iload_n hx hb dX12_four_16 rfl (lv_at hl 0 rfl) ?_
  refine lv_ishr hx hb dX12_four_17 ?_
  refine lv_topi (fun x_1 ex_1 => ?_)
  have zrp0 := z_rng p0
  refine lv_i2b (v := x_1.toInt8.toInt32) hx hb dX12_four_18 rfl ?_
  refine va_bast hx hb hK hP hD hS 1 1 rfl rfl (z_in (by omega) (by omega)) dX12_four_19 (fun H locs hP hD hS => ?_)
  obtain ⟨g_3, eg_3⟩ : ∃ z : Nat → Int32, upd f5 v6.toNatClampNeg (vp_nar .byte x_1.toInt8.toInt32) = z := ⟨_, rfl⟩
  have hP : va_P D vwCl [(mo, .inr (12, [.int v0, .ref m1, .ref m2, .ref m3, .ref m4, .ref m5, .int v6, .int v7, .int v8, .int v9, .int v10, .long v11, .int v12, .int v13, .int v14, .int v15, .ref m16, .ref m17, .ref m18, .ref m19, .ref m20, .ref m21, .ref m22, .ref m23, .int v24, .ref m25, .ref m26, .ref m27, .ref m28, .ref m29, .int v30, .ref m31, .ref m32, .ref m33, .int v34, .int v35, .int v36, .ref m37, .ref m38, .ref m39, .ref m40, .long v41])), (m5, .inl (k 1, 1000, .inl (upd f5 v6.toNatClampNeg (vp_nar .byte x_1.toInt8.toInt32))))] H := hP
  have hD : va_D A [(mo, .inr (12, [.int v0, .ref m1, .ref m2, .ref m3, .ref m4, .ref m5, .int v6, .int v7, .int v8, .int v9, .int v10, .long v11, .int v12, .int v13, .int v14, .int v15, .ref m16, .ref m17, .ref m18, .ref m19, .ref m20, .ref m21, .ref m22, .ref m23, .int v24, .ref m25, .ref m26, .ref m27, .ref m28, .ref m29, .int v30, .ref m31, .ref m32, .ref m33, .int v34, .int v35, .int v36, .ref m37, .ref m38, .ref m39, .ref m40, .long v41])), (m5, .inl (k 1, 1000, .inl (upd f5 v6.toNatClampNeg (vp_nar .byte x_1.toInt8.toInt32))))] := hD
  rw [eg_3] at hP hD
  refine lv_aload_n hx hb dX12_four_20 rfl (lv_at hl 1 rfl) ?_
  refine lv_dup hx hb dX12_four_21 rfl ?_
  refine va_get (D := D) (ci := 12) (v := .int v6) (C := RX12) (T := TX12) (N := 42) hx hb hts iT_X12 hown hK hP 0 rfl rfl 6 (by decide) (hts _ tw_6_59) (fun _ h9 => h9) rfl dX12_four_22 ?_
  refine lv_iconst (v := 1) hx hb dX12_four_25 (by decide) ?_
  refine lv_iadd hx hb dX12_four_26 ?_
  refine lv_topi (fun x_4 ex_4 => ?_)
  have zx_4 : x_4.toInt = v6.toInt + 1 := by rw [ex_4]; exact z_add rfl rfl (by omega) (by omega)
  refine va_put (D := D) (ci := 12) (v := .int x_4) (ty := tyX12 6) (C := RX12) (T := TX12) (N := 42) hx hb hts iT_X12 tyX12 tyX12_ok nmX12 hown hK hP hD hS 0 rfl rfl 6 (by decide) (hts _ tw_6_59) (fun _ h9 => h9) rfl (tyX12_ok 6 (by decide)) rfl rfl (Nat.le_of_ble_eq_true rfl) dX12_four_27 (fun H locs hP hD hS => ?_)
  have hP : va_P D vwCl [(mo, .inr (12, [.int v0, .ref m1, .ref m2, .ref m3, .ref m4, .ref m5, .int x_4, .int v7, .int v8, .int v9, .int v10, .long v11, .int v12, .int v13, .int v14, .int v15, .ref m16, .ref m17, .ref m18, .ref m19, .ref m20, .ref m21, .ref m22, .ref m23, .int v24, .ref m25, .ref m26, .ref m27, .ref m28, .ref m29, .int v30, .ref m31, .ref m32, .ref m33, .int v34, .int v35, .int v36, .ref m37, .ref m38, .ref m39, .ref m40, .long v41])), (m5, .inl (k 1, 1000, .inl g_3))] H := hP
  have hD : va_D A [(mo, .inr (12, [.int v0, .ref m1, .ref m2, .ref m3, .ref m4, .ref m5, .int x_4, .int v7, .int v8, .int v9, .int v10, .long v11, .int v12, .int v13, .int v14, .int v15, .ref m16, .ref m17, .ref m18, .ref m19, .ref m20, .ref m21, .ref m22, .ref m23, .int v24, .ref m25, .ref m26, .ref m27, .ref m28, .ref m29, .int v30, .ref m31, .ref m32, .ref m33, .int v34, .int v35, .int v36, .ref m37, .ref m38, .ref m39, .ref m40, .long v41])), (m5, .inl (k 1, 1000, .inl g_3))] := hD
  refine lv_iinc (v := 16) (lv' := [(2, .int 16), (0, .ref mo), (1, .int p0)]) hx hb dX12_four_30 hl (k := 0) rfl (by decide) (by decide) rfl (fun ls hl => ?_)
  refine lv_goto (tgt := 3) hx hb dX12_four_33 (by decide) ?_
  refine lv_iload_n hx hb dX12_four_3 rfl (lv_at hl 0 rfl) ?_
  refine lv_if_lt (tgt := 36) hx hb dX12_four_4 (by decide) (fun c9 => absurd c9 (by decide)) (fun _ => ?_)
  refine lv_aload_n hx hb dX12_four_7 rfl (lv_at hl 1 rfl) ?_
  refine va_get (D := D) (ci := 12) (v := .ref m5) (C := RX12) (T := TX12) (N := 42) hx hb hts iT_X12 hown hK hP 0 rfl rfl 5 (by decide) (hts _ tw_6_58) (fun _ h9 => h9) rfl dX12_four_8 ?_
  refine lv_aload_n hx hb dX12_four_11 rfl (lv_at hl 1 rfl) ?_
  refine va_get (D := D) (ci := 12) (v := .int x_4) (C := RX12) (T := TX12) (N := 42) hx hb hts iT_X12 hown hK hP 0 rfl rfl 6 (by decide) (hts _ tw_6_59) (fun _ h9 => h9) rfl dX12_four_12 ?_
  refine lv_iload_n hx hb dX12_four_15 rfl (lv_at hl 2 rfl) ?_
  refine lv_iload_n hx hb dX12_four_16 rfl (lv_at hl 0 rfl) ?_
  refine lv_ishr hx hb dX12_four_17 ?_
  refine lv_topi (fun x_6 ex_6 => ?_)
  refine lv_i2b (v := x_6.toInt8.toInt32) hx hb dX12_four_18 rfl ?_
  refine va_bast hx hb hK hP hD hS 1 1 rfl rfl (z_in (by omega) (by omega)) dX12_four_19 (fun H locs hP hD hS => ?_)
  obtain ⟨g_8, eg_8⟩ : ∃ z : Nat → Int32, upd g_3 x_4.toNatClampNeg (vp_nar .byte x_6.toInt8.toInt32) = z := ⟨_, rfl⟩
  have hP : va_P D vwCl [(mo, .inr (12, [.int v0, .ref m1, .ref m2, .ref m3, .ref m4, .ref m5, .int x_4, .int v7, .int v8, .int v9, .int v10, .long v11, .int v12, .int v13, .int v14, .int v15, .ref m16, .ref m17, .ref m18, .ref m19, .ref m20, .ref m21, .ref m22, .ref m23, .int v24, .ref m25, .ref m26, .ref m27, .ref m28, .ref m29, .int v30, .ref m31, .ref m32, .ref m33, .int v34, .int v35, .int v36, .ref m37, .ref m38, .ref m39, .ref m40, .long v41])), (m5, .inl (k 1, 1000, .inl (upd g_3 x_4.toNatClampNeg (vp_nar .byte x_6.toInt8.toInt32))))] H := hP
  have hD : va_D A [(mo, .inr (12, [.int v0, .ref m1, .ref m2, .ref m3, .ref m4, .ref m5, .int x_4, .int v7, .int v8, .int v9, .int v10, .long v11, .int v12, .int v13, .int v14, .int v15, .ref m16, .ref m17, .ref m18, .ref m19, .ref m20, .ref m21, .ref m22, .ref m23, .int v24, .ref m25, .ref m26, .ref m27, .ref m28, .ref m29, .int v30, .ref m31, .ref m32, .ref m33, .int v34, .int v35, .int v36, .ref m37, .ref m38, .ref m39, .ref m40, .long v41])), (m5, .inl (k 1, 1000, .inl (upd g_3 x_4.toNatClampNeg (vp_nar .byte x_6.toInt8.toInt32))))] := hD
  rw [eg_8] at hP hD
  refine lv_aload_n hx hb dX12_four_20 rfl (lv_at hl 1 rfl) ?_
  refine lv_dup hx hb dX12_four_21 rfl ?_
  refine va_get (D := D) (ci := 12) (v := .int x_4) (C := RX12) (T := TX12) (N := 42) hx hb hts iT_X12 hown hK hP 0 rfl rfl 6 (by decide) (hts _ tw_6_59) (fun _ h9 => h9) rfl dX12_four_22 ?_
  refine lv_iconst (v := 1) hx hb dX12_four_25 (by decide) ?_
  refine lv_iadd hx hb dX12_four_26 ?_
  refine lv_topi (fun x_9 ex_9 => ?_)
  have zx_9 : x_9.toInt = x_4.toInt + 1 := by rw [ex_9]; exact z_add rfl rfl (by omega) (by omega)
  refine va_put (D := D) (ci := 12) (v := .int x_9) (ty := tyX12 6) (C := RX12) (T := TX12) (N := 42) hx hb hts iT_X12 tyX12 tyX12_ok nmX12 hown hK hP hD hS 0 rfl rfl 6 (by decide) (hts _ tw_6_59) (fun _ h9 => h9) rfl (tyX12_ok 6 (by decide)) rfl rfl (Nat.le_of_ble_eq_true rfl) dX12_four_27 (fun H locs hP hD hS => ?_)
  have hP : va_P D vwCl [(mo, .inr (12, [.int v0, .ref m1, .ref m2, .ref m3, .ref m4, .ref m5, .int x_9, .int v7, .int v8, .int v9, .int v10, .long v11, .int v12, .int v13, .int v14, .int v15, .ref m16, .ref m17, .ref m18, .ref m19, .ref m20, .ref m21, .ref m22, .ref m23, .int v24, .ref m25, .ref m26, .ref m27, .ref m28, .ref m29, .int v30, .ref m31, .ref m32, .ref m33, .int v34, .int v35, .int v36, .ref m37, .ref m38, .ref m39, .ref m40, .long v41])), (m5, .inl (k 1, 1000, .inl g_8))] H := hP
  have hD : va_D A [(mo, .inr (12, [.int v0, .ref m1, .ref m2, .ref m3, .ref m4, .ref m5, .int x_9, .int v7, .int v8, .int v9, .int v10, .long v11, .int v12, .int v13, .int v14, .int v15, .ref m16, .ref m17, .ref m18, .ref m19, .ref m20, .ref m21, .ref m22, .ref m23, .int v24, .ref m25, .ref m26, .ref m27, .ref m28, .ref m29, .int v30, .ref m31, .ref m32, .ref m33, .int v34, .int v35, .int v36, .ref m37, .ref m38, .ref m39, .ref m40, .long v41])), (m5, .inl (k 1, 1000, .inl g_8))] := hD
  refine lv_iinc (v := 8) (lv' := [(2, .int 8), (0, .ref mo), (1, .int p0)]) hx hb dX12_four_30 hl (k := 0) rfl (by decide) (by decide) rfl (fun ls hl => ?_)
  refine lv_goto (tgt := 3) hx hb dX12_four_33 (by decide) ?_
  refine lv_iload_n hx hb dX12_four_3 rfl (lv_at hl 0 rfl) ?_
  refine lv_if_lt (tgt := 36) hx hb dX12_four_4 (by decide) (fun c9 => absurd c9 (by decide)) (fun _ => ?_)
  refine lv_aload_n hx hb dX12_four_7 rfl (lv_at hl 1 rfl) ?_
  refine va_get (D := D) (ci := 12) (v := .ref m5) (C := RX12) (T := TX12) (N := 42) hx hb hts iT_X12 hown hK hP 0 rfl rfl 5 (by decide) (hts _ tw_6_58) (fun _ h9 => h9) rfl dX12_four_8 ?_
  refine lv_aload_n hx hb dX12_four_11 rfl (lv_at hl 1 rfl) ?_
  refine va_get (D := D) (ci := 12) (v := .int x_9) (C := RX12) (T := TX12) (N := 42) hx hb hts iT_X12 hown hK hP 0 rfl rfl 6 (by decide) (hts _ tw_6_59) (fun _ h9 => h9) rfl dX12_four_12 ?_
  refine lv_iload_n hx hb dX12_four_15 rfl (lv_at hl 2 rfl) ?_
  refine lv_iload_n hx hb dX12_four_16 rfl (lv_at hl 0 rfl) ?_
  refine lv_ishr hx hb dX12_four_17 ?_
  refine lv_topi (fun x_11 ex_11 => ?_)
  refine lv_i2b (v := x_11.toInt8.toInt32) hx hb dX12_four_18 rfl ?_
  refine va_bast hx hb hK hP hD hS 1 1 rfl rfl (z_in (by omega) (by omega)) dX12_four_19 (fun H locs hP hD hS => ?_)
  obtain ⟨g_13, eg_13⟩ : ∃ z : Nat → Int32, upd g_8 x_9.toNatClampNeg (vp_nar .byte x_11.toInt8.toInt32) = z := ⟨_, rfl⟩
  have hP : va_P D vwCl [(mo, .inr (12, [.int v0, .ref m1, .ref m2, .ref m3, .ref m4, .ref m5, .int x_9, .int v7, .int v8, .int v9, .int v10, .long v11, .int v12, .int v13, .int v14, .int v15, .ref m16, .ref m17, .ref m18, .ref m19, .ref m20, .ref m21, .ref m22, .ref m23, .int v24, .ref m25, .ref m26, .ref m27, .ref m28, .ref m29, .int v30, .ref m31, .ref m32, .ref m33, .int v34, .int v35, .int v36, .ref m37, .ref m38, .ref m39, .ref m40, .long v41])), (m5, .inl (k 1, 1000, .inl (upd g_8 x_9.toNatClampNeg (vp_nar .byte x_11.toInt8.toInt32))))] H := hP
  have hD : va_D A [(mo, .inr (12, [.int v0, .ref m1, .ref m2, .ref m3, .ref m4, .ref m5, .int x_9, .int v7, .int v8, .int v9, .int v10, .long v11, .int v12, .int v13, .int v14, .int v15, .ref m16, .ref m17, .ref m18, .ref m19, .ref m20, .ref m21, .ref m22, .ref m23, .int v24, .ref m25, .ref m26, .ref m27, .ref m28, .ref m29, .int v30, .ref m31, .ref m32, .ref m33, .int v34, .int v35, .int v36, .ref m37, .ref m38, .ref m39, .ref m40, .long v41])), (m5, .inl (k 1, 1000, .inl (upd g_8 x_9.toNatClampNeg (vp_nar .byte x_11.toInt8.toInt32))))] := hD
  rw [eg_13] at hP hD
  refine lv_aload_n hx hb dX12_four_20 rfl (lv_at hl 1 rfl) ?_
  refine lv_dup hx hb dX12_four_21 rfl ?_
  refine va_get (D := D) (ci := 12) (v := .int x_9) (C := RX12) (T := TX12) (N := 42) hx hb hts iT_X12 hown hK hP 0 rfl rfl 6 (by decide) (hts _ tw_6_59) (fun _ h9 => h9) rfl dX12_four_22 ?_
  refine lv_iconst (v := 1) hx hb dX12_four_25 (by decide) ?_
  refine lv_iadd hx hb dX12_four_26 ?_
  refine lv_topi (fun x_14 ex_14 => ?_)
  have zx_14 : x_14.toInt = x_9.toInt + 1 := by rw [ex_14]; exact z_add rfl rfl (by omega) (by omega)
  refine va_put (D := D) (ci := 12) (v := .int x_14) (ty := tyX12 6) (C := RX12) (T := TX12) (N := 42) hx hb hts iT_X12 tyX12 tyX12_ok nmX12 hown hK hP hD hS 0 rfl rfl 6 (by decide) (hts _ tw_6_59) (fun _ h9 => h9) rfl (tyX12_ok 6 (by decide)) rfl rfl (Nat.le_of_ble_eq_true rfl) dX12_four_27 (fun H locs hP hD hS => ?_)
  have hP : va_P D vwCl [(mo, .inr (12, [.int v0, .ref m1, .ref m2, .ref m3, .ref m4, .ref m5, .int x_14, .int v7, .int v8, .int v9, .int v10, .long v11, .int v12, .int v13, .int v14, .int v15, .ref m16, .ref m17, .ref m18, .ref m19, .ref m20, .ref m21, .ref m22, .ref m23, .int v24, .ref m25, .ref m26, .ref m27, .ref m28, .ref m29, .int v30, .ref m31, .ref m32, .ref m33, .int v34, .int v35, .int v36, .ref m37, .ref m38, .ref m39, .ref m40, .long v41])), (m5, .inl (k 1, 1000, .inl g_13))] H := hP
  have hD : va_D A [(mo, .inr (12, [.int v0, .ref m1, .ref m2, .ref m3, .ref m4, .ref m5, .int x_14, .int v7, .int v8, .int v9, .int v10, .long v11, .int v12, .int v13, .int v14, .int v15, .ref m16, .ref m17, .ref m18, .ref m19, .ref m20, .ref m21, .ref m22, .ref m23, .int v24, .ref m25, .ref m26, .ref m27, .ref m28, .ref m29, .int v30, .ref m31, .ref m32, .ref m33, .int v34, .int v35, .int v36, .ref m37, .ref m38, .ref m39, .ref m40, .long v41])), (m5, .inl (k 1, 1000, .inl g_13))] := hD
  refine lv_iinc (v := 0) (lv' := [(2, .int 0), (0, .ref mo), (1, .int p0)]) hx hb dX12_four_30 hl (k := 0) rfl (by decide) (by decide) rfl (fun ls hl => ?_)
  refine lv_goto (tgt := 3) hx hb dX12_four_33 (by decide) ?_
  refine lv_iload_n hx hb dX12_four_3 rfl (lv_at hl 0 rfl) ?_
  refine lv_if_lt (tgt := 36) hx hb dX12_four_4 (by decide) (fun c9 => absurd c9 (by decide)) (fun _ => ?_)
  refine lv_aload_n hx hb dX12_four_7 rfl (lv_at hl 1 rfl) ?_
  refine va_get (D := D) (ci := 12) (v := .ref m5) (C := RX12) (T := TX12) (N := 42) hx hb hts iT_X12 hown hK hP 0 rfl rfl 5 (by decide) (hts _ tw_6_58) (fun _ h9 => h9) rfl dX12_four_8 ?_
  refine lv_aload_n hx hb dX12_four_11 rfl (lv_at hl 1 rfl) ?_
  refine va_get (D := D) (ci := 12) (v := .int x_14) (C := RX12) (T := TX12) (N := 42) hx hb hts iT_X12 hown hK hP 0 rfl rfl 6 (by decide) (hts _ tw_6_59) (fun _ h9 => h9) rfl dX12_four_12 ?_
  refine lv_iload_n hx hb dX12_four_15 rfl (lv_at hl 2 rfl) ?_
  refine lv_iload_n hx hb dX12_four_16 rfl (lv_at hl 0 rfl) ?_
  refine lv_ishr hx hb dX12_four_17 ?_
  refine lv_topi (fun x_16 ex_16 => ?_)
  refine lv_i2b (v := x_16.toInt8.toInt32) hx hb dX12_four_18 rfl ?_
  refine va_bast hx hb hK hP hD hS 1 1 rfl rfl (z_in (by omega) (by omega)) dX12_four_19 (fun H locs hP hD hS => ?_)
  obtain ⟨g_18, eg_18⟩ : ∃ z : Nat → Int32, upd g_13 x_14.toNatClampNeg (vp_nar .byte x_16.toInt8.toInt32) = z := ⟨_, rfl⟩
  have hP : va_P D vwCl [(mo, .inr (12, [.int v0, .ref m1, .ref m2, .ref m3, .ref m4, .ref m5, .int x_14, .int v7, .int v8, .int v9, .int v10, .long v11, .int v12, .int v13, .int v14, .int v15, .ref m16, .ref m17, .ref m18, .ref m19, .ref m20, .ref m21, .ref m22, .ref m23, .int v24, .ref m25, .ref m26, .ref m27, .ref m28, .ref m29, .int v30, .ref m31, .ref m32, .ref m33, .int v34, .int v35, .int v36, .ref m37, .ref m38, .ref m39, .ref m40, .long v41])), (m5, .inl (k 1, 1000, .inl (upd g_13 x_14.toNatClampNeg (vp_nar .byte x_16.toInt8.toInt32))))] H := hP
  have hD : va_D A [(mo, .inr (12, [.int v0, .ref m1, .ref m2, .ref m3, .ref m4, .ref m5, .int x_14, .int v7, .int v8, .int v9, .int v10, .long v11, .int v12, .int v13, .int v14, .int v15, .ref m16, .ref m17, .ref m18, .ref m19, .ref m20, .ref m21, .ref m22, .ref m23, .int v24, .ref m25, .ref m26, .ref m27, .ref m28, .ref m29, .int v30, .ref m31, .ref m32, .ref m33, .int v34, .int v35, .int v36, .ref m37, .ref m38, .ref m39, .ref m40, .long v41])), (m5, .inl (k 1, 1000, .inl (upd g_13 x_14.toNatClampNeg (vp_nar .byte x_16.toInt8.toInt32))))] := hD
  rw [eg_18] at hP hD
  refine lv_aload_n hx hb dX12_four_20 rfl (lv_at hl 1 rfl) ?_
  refine lv_dup hx hb dX12_four_21 rfl ?_
  refine va_get (D := D) (ci := 12) (v := .int x_14) (C := RX12) (T := TX12) (N := 42) hx hb hts iT_X12 hown hK hP 0 rfl rfl 6 (by decide) (hts _ tw_6_59) (fun _ h9 => h9) rfl dX12_four_22 ?_
  refine lv_iconst (v := 1) hx hb dX12_four_25 (by decide) ?_
  refine lv_iadd hx hb dX12_four_26 ?_
  refine lv_topi (fun x_19 ex_19 => ?_)
  have zx_19 : x_19.toInt = x_14.toInt + 1 := by rw [ex_19]; exact z_add rfl rfl (by omega) (by omega)
  refine va_put (D := D) (ci := 12) (v := .int x_19) (ty := tyX12 6) (C := RX12) (T := TX12) (N := 42) hx hb hts iT_X12 tyX12 tyX12_ok nmX12 hown hK hP hD hS 0 rfl rfl 6 (by decide) (hts _ tw_6_59) (fun _ h9 => h9) rfl (tyX12_ok 6 (by decide)) rfl rfl (Nat.le_of_ble_eq_true rfl) dX12_four_27 (fun H locs hP hD hS => ?_)
  have hP : va_P D vwCl [(mo, .inr (12, [.int v0, .ref m1, .ref m2, .ref m3, .ref m4, .ref m5, .int x_19, .int v7, .int v8, .int v9, .int v10, .long v11, .int v12, .int v13, .int v14, .int v15, .ref m16, .ref m17, .ref m18, .ref m19, .ref m20, .ref m21, .ref m22, .ref m23, .int v24, .ref m25, .ref m26, .ref m27, .ref m28, .ref m29, .int v30, .ref m31, .ref m32, .ref m33, .int v34, .int v35, .int v36, .ref m37, .ref m38, .ref m39, .ref m40, .long v41])), (m5, .inl (k 1, 1000, .inl g_18))] H := hP
  have hD : va_D A [(mo, .inr (12, [.int v0, .ref m1, .ref m2, .ref m3, .ref m4, .ref m5, .int x_19, .int v7, .int v8, .int v9, .int v10, .long v11, .int v12, .int v13, .int v14, .int v15, .ref m16, .ref m17, .ref m18, .ref m19, .ref m20, .ref m21, .ref m22, .ref m23, .int v24, .ref m25, .ref m26, .ref m27, .ref m28, .ref m29, .int v30, .ref m31, .ref m32, .ref m33, .int v34, .int v35, .int v36, .ref m37, .ref m38, .ref m39, .ref m40, .long v41])), (m5, .inl (k 1, 1000, .inl g_18))] := hD
  refine lv_iinc (v := (-8)) (lv' := [(2, .int (-8)), (0, .ref mo), (1, .int p0)]) hx hb dX12_four_30 hl (k := 0) rfl (by decide) (by decide) rfl (fun ls hl => ?_)
  refine lv_goto (tgt := 3) hx hb dX12_four_33 (by decide) ?_
  refine lv_iload_n hx hb dX12_four_3 rfl (lv_at hl 0 rfl) ?_
  refine lv_if_lt (tgt := 36) hx hb dX12_four_4 (by decide) (fun _ => ?_) (fun c9 => absurd c9 (by decide))
  obtain ⟨hP9, hD9⟩ := sub2 hP hD (ws' := [(mo, .inr (12, [.int v0, .ref m1, .ref m2, .ref m3, .ref m4, .ref m5, .int x_19, .int v7, .int v8, .int v9, .int v10, .long v11, .int v12, .int v13, .int v14, .int v15, .ref m16, .ref m17, .ref m18, .ref m19, .ref m20, .ref m21, .ref m22, .ref m23, .int v24, .ref m25, .ref m26, .ref m27, .ref m28, .ref m29, .int v30, .ref m31, .ref m32, .ref m33, .int v34, .int v35, .int v36, .ref m37, .ref m38, .ref m39, .ref m40, .long v41])), (m5, .inl (k 1, 1000, .inl g_18))]) [0, 1] (by decide +kernel) rfl
  exact W.vret hx hb hr (fun tZ ht hW => ⟨⟨(x_19, g_18), rfl, ⟨(show 4 ≤ x_19.toInt ∧ x_19.toInt ≤ 1000 from by omega), (show x_19.toInt = v6.toInt + 4 from by omega)⟩, by rw [ht]; exact hP9, va_K.moved hW.alike hK, hD9⟩, hS.F ht⟩) hS.2.2 dX12_four_36
set_option maxHeartbeats 4000000 in
set_option maxRecDepth 100000 in
theorem c_X12_feed (l : Launch) (D : va_G) (k : Nat → ClassId) (mo : Nat) (p0 : Int32) (p1 : Int32) (p2 : Int32) (p3 : Int32) (p4 : Int32) (v0 : Int32) (m1 : Nat) (m2 : Nat) (m3 : Nat) (m4 : Nat) (m5 : Nat) (v6 : Int32) (v7 : Int32) (v8 : Int32) (v9 : Int32) (v10 : Int32) (v11 : Int64) (v12 : Int32) (v13 : Int32) (v14 : Int32) (v15 : Int32) (m16 : Nat) (m17 : Nat) (m18 : Nat) (m19 : Nat) (m20 : Nat) (m21 : Nat) (m22 : Nat) (m23 : Nat) (v24 : Int32) (m25 : Nat) (m26 : Nat) (m27 : Nat) (m28 : Nat) (m29 : Nat) (v30 : Int32) (m31 : Nat) (m32 : Nat) (m33 : Nat) (v34 : Int32) (v35 : Int32) (v36 : Int32) (m37 : Nat) (m38 : Nat) (m39 : Nat) (m40 : Nat) (v41 : Int64) (f5 : Nat → Int32) (sz : Nat) (h_v6 : 0 ≤ v6.toInt ∧ v6.toInt ≤ 1000) (h_v24 : 0 ≤ v24.toInt ∧ v24.toInt ≤ 1023) : Met l yX12_feed (ww yX12_feed cX12_feed 6 (some .int)) ({ frames := 1, cells := 0, slots := 0, locals := 22 }) (Pre0 D k [(mo, .inr (12, [.int v0, .ref m1, .ref m2, .ref m3, .ref m4, .ref m5, .int v6, .int v7, .int v8, .int v9, .int v10, .long v11, .int v12, .int v13, .int v14, .int v15, .ref m16, .ref m17, .ref m18, .ref m19, .ref m20, .ref m21, .ref m22, .ref m23, .int v24, .ref m25, .ref m26, .ref m27, .ref m28, .ref m29, .int v30, .ref m31, .ref m32, .ref m33, .int v34, .int v35, .int v36, .ref m37, .ref m38, .ref m39, .ref m40, .long v41])), (m5, .inl (k 1, 1000, .inl f5))] sz [.ref mo, .int p0, .int p1, .int p2, .int p3, .int p4]) (va_Qi (fun (r : Int32) (u : Int32 × Int32 × (Nat → Int32)) => match u with | (v0z, v6z, f5z) => ((-1) ≤ r.toInt ∧ r.toInt ≤ 1000) ∧ (0 ≤ v0z.toInt ∧ v0z.toInt ≤ 0) ∧ (20 ≤ v6z.toInt ∧ v6z.toInt ≤ 1000)) (fun (u : Int32 × Int32 × (Nat → Int32)) tZ => match u with | (v0z, v6z, f5z) => Bw D k (va_A [(mo, .inr (12, [.int v0, .ref m1, .ref m2, .ref m3, .ref m4, .ref m5, .int v6, .int v7, .int v8, .int v9, .int v10, .long v11, .int v12, .int v13, .int v14, .int v15, .ref m16, .ref m17, .ref m18, .ref m19, .ref m20, .ref m21, .ref m22, .ref m23, .int v24, .ref m25, .ref m26, .ref m27, .ref m28, .ref m29, .int v30, .ref m31, .ref m32, .ref m33, .int v34, .int v35, .int v36, .ref m37, .ref m38, .ref m39, .ref m40, .long v41])), (m5, .inl (k 1, 1000, .inl f5))] sz) [(mo, .inr (12, [.int v0z, .ref m1, .ref m2, .ref m3, .ref m4, .ref m5, .int v6z, .int v7, .int v8, .int v9, .int v10, .long v11, .int v12, .int v13, .int v14, .int v15, .ref m16, .ref m17, .ref m18, .ref m19, .ref m20, .ref m21, .ref m22, .ref m23, .int v24, .ref m25, .ref m26, .ref m27, .ref m28, .ref m29, .int v30, .ref m31, .ref m32, .ref m33, .int v34, .int v35, .int v36, .ref m37, .ref m38, .ref m39, .ref m40, .long v41])), (m5, .inl (k 1, 1000, .inl f5z))] tZ) (va_A [(mo, .inr (12, [.int v0, .ref m1, .ref m2, .ref m3, .ref m4, .ref m5, .int v6, .int v7, .int v8, .int v9, .int v10, .long v11, .int v12, .int v13, .int v14, .int v15, .ref m16, .ref m17, .ref m18, .ref m19, .ref m20, .ref m21, .ref m22, .ref m23, .int v24, .ref m25, .ref m26, .ref m27, .ref m28, .ref m29, .int v30, .ref m31, .ref m32, .ref m33, .int v34, .int v35, .int v36, .ref m37, .ref m38, .ref m39, .ref m40, .long v41])), (m5, .inl (k 1, 1000, .inl f5))] sz)) 0 0 (va_A [(mo, .inr (12, [.int v0, .ref m1, .ref m2, .ref m3, .ref m4, .ref m5, .int v6, .int v7, .int v8, .int v9, .int v10, .long v11, .int v12, .int v13, .int v14, .int v15, .ref m16, .ref m17, .ref m18, .ref m19, .ref m20, .ref m21, .ref m22, .ref m23, .int v24, .ref m25, .ref m26, .ref m27, .ref m28, .ref m29, .int v30, .ref m31, .ref m32, .ref m33, .int v34, .int v35, .int v36, .ref m37, .ref m38, .ref m39, .ref m40, .long v41])), (m5, .inl (k 1, 1000, .inl f5))] sz) := by
  refine Met.ofW (cc := cX12_feed) (maxL := 6) (ret := (some .int)) (by decide +kernel) rfl ?_
  intro p e s m args below meth c s₁ B hml hv
  obtain ⟨rfl, hsz, hP, hK, hD0, hN⟩ := hv
  have hx := B.exec
  have hb := B.bytes
  have hr := B.returns
  have hts : ∀ w ∈ TT, w.before _ s = true := fun w h => atoms_spec (ws := ww yX12_feed cX12_feed 6 (some .int)) B.pre w (List.mem_cons_of_mem _ h)
  have hown : s.vm.findClass RX12 = some m.cls := findClass_of_methodNamed B.named
  have hlocks := B.notSynchronized
  subst hsz
  have hD := hD0.self (sz := s.heap.size)
  generalize hAe : va_A [(mo, .inr (12, [.int v0, .ref m1, .ref m2, .ref m3, .ref m4, .ref m5, .int v6, .int v7, .int v8, .int v9, .int v10, .long v11, .int v12, .int v13, .int v14, .int v15, .ref m16, .ref m17, .ref m18, .ref m19, .ref m20, .ref m21, .ref m22, .ref m23, .int v24, .ref m25, .ref m26, .ref m27, .ref m28, .ref m29, .int v30, .ref m31, .ref m32, .ref m33, .int v34, .int v35, .int v36, .ref m37, .ref m38, .ref m39, .ref m40, .long v41])), (m5, .inl (k 1, 1000, .inl f5))] s.heap.size = A at hD ⊢
  have hA : ∀ q : Nat, s.heap.size ≤ q → A q := fun q h => by rw [← hAe]; exact Or.inr h
  have hS : va_S A s.heap s.heap [] := va_S.rf
  have hl := lv_entry ([.ref mo, .int p0, .int p1, .int p2, .int p3, .int p4]) (n := 6) (Nat.le_of_ble_eq_true rfl)
  rw [lg_entry_eq]
  generalize (lg_sl ([.ref mo, .int p0, .int p1, .int p2, .int p3, .int p4]) ++ List.replicate (6 - (lg_sl ([.ref mo, .int p0, .int p1, .int p2, .int p3, .int p4])).length) Slot.unset).toArray = ls at hl ⊢
  have hl : lv_has ls 6 [(0, .ref mo), (1, .int p0), (2, .int p1), (3, .int p2), (4, .int p3), (5, .int p4)] := hl
  refine lv_aload_n hx hb dX12_feed_0 rfl (lv_at hl 0 rfl) ?_
  refine lv_iconst (v := 0) hx hb dX12_feed_1 (by decide) ?_
  refine va_put (D := D) (ci := 12) (v := .int 0) (ty := tyX12 0) (C := RX12) (T := TX12) (N := 42) hx hb hts iT_X12 tyX12 tyX12_ok nmX12 hown hK hP hD hS 0 rfl rfl 0 (by decide) (hts _ tw_6_53) (fun _ h9 => h9) rfl (tyX12_ok 0 (by decide)) rfl rfl (Nat.le_of_ble_eq_true rfl) dX12_feed_2 (fun H locs hP hD hS => ?_)
  have hP : va_P D vwCl [(mo, .inr (12, [.int 0, .ref m1, .ref m2, .ref m3, .ref m4, .ref m5, .int v6, .int v7, .int v8, .int v9, .int v10, .long v11, .int v12, .int v13, .int v14, .int v15, .ref m16, .ref m17, .ref m18, .ref m19, .ref m20, .ref m21, .ref m22, .ref m23, .int v24, .ref m25, .ref m26, .ref m27, .ref m28, .ref m29, .int v30, .ref m31, .ref m32, .ref m33, .int v34, .int v35, .int v36, .ref m37, .ref m38, .ref m39, .ref m40, .long v41])), (m5, .inl (k 1, 1000, .inl f5))] H := hP
  have hD : va_D A [(mo, .inr (12, [.int 0, .ref m1, .ref m2, .ref m3, .ref m4, .ref m5, .int v6, .int v7, .int v8, .int v9, .int v10, .long v11, .int v12, .int v13, .int v14, .int v15, .ref m16, .ref m17, .ref m18, .ref m19, .ref m20, .ref m21, .ref m22, .ref m23, .int v24, .ref m25, .ref m26, .ref m27, .ref m28, .ref m29, .int v30, .ref m31, .ref m32, .ref m33, .int v34, .int v35, .int v36, .ref m37, .ref m38, .ref m39, .ref m40, .long v41])), (m5, .inl (k 1, 1000, .inl f5))] := hD
  refine lv_aload_n hx hb dX12_feed_5 rfl (lv_at hl 0 rfl) ?_
  refine va_get (D := D) (ci := 12) (v := .int v6) (C := RX12) (T := TX12) (N := 42) hx hb hts iT_X12 hown hK hP 0 rfl rfl 6 (by decide) (hts _ tw_6_59) (fun _ h9 => h9) rfl dX12_feed_6 ?_
  refine lv_bipush (v := 20) hx hb dX12_feed_9 (by decide) ?_
  refine lv_iadd hx hb dX12_feed_11 ?_
  refine lv_topi (fun x_1 ex_1 => ?_)
  have zx_1 : x_1.toInt = v6.toInt + 20 := by rw [ex_1]; exact z_add rfl rfl (by omega) (by omega)
  refine lv_sipush (v := 1000) hx hb dX12_feed_12 (by decide) ?_
  refine lv_icmp_le (tgt := 20) hx hb dX12_feed_15 (by decide) (fun h_2 => ?_) (fun h_2 => ?_)
  · skip
    have zh_2 : x_1.toInt ≤ 1000 := z_le h_2
    refine lv_aload_n hx hb dX12_feed_20 rfl (lv_at hl 0 rfl) ?_
    refine lv_iload_n hx hb dX12_feed_21 rfl (lv_at hl 1 rfl) ?_
    obtain ⟨hPc, hDc, hFc⟩ := sub3 hP hD hS hA (ws' := [(mo, .inr (12, [.int 0, .ref m1, .ref m2, .ref m3, .ref m4, .ref m5, .int v6, .int v7, .int v8, .int v9, .int v10, .long v11, .int v12, .int v13, .int v14, .int v15, .ref m16, .ref m17, .ref m18, .ref m19, .ref m20, .ref m21, .ref m22, .ref m23, .int v24, .ref m25, .ref m26, .ref m27, .ref m28, .ref m29, .int v30, .ref m31, .ref m32, .ref m33, .int v34, .int v35, .int v36, .ref m37, .ref m38, .ref m39, .ref m40, .long v41])), (m5, .inl (k 1, 1000, .inl f5))]) [0, 1] (by decide +kernel) rfl
    refine va_callv (va_runV (C := RX12) (As := [.int p0]) (rest := []) ⟨hx, hb, hml, hown, hts⟩ (c_X12_four l D k mo p0 0 m1 m2 m3 m4 m5 v6 v7 v8 v9 v10 v11 v12 v13 v14 v15 m16 m17 m18 m19 m20 m21 m22 m23 v24 m25 m26 m27 m28 m29 v30 m31 m32 m33 v34 v35 v36 m37 m38 m39 m40 v41 f5 H.size (show 0 ≤ v6.toInt ∧ v6.toInt ≤ 996 from by omega) (show 0 ≤ v24.toInt ∧ v24.toInt ≤ 1023 from by omega)) (cwV 1 hts (gV tw_6_206 tw_6_208 tw_p_35 tw_1_13 tw_6_209) rfl rfl rfl hdV_X12_four ⟨Nat.le_of_ble_eq_true rfl, Nat.le_of_ble_eq_true rfl⟩) (cz_V hK hPc hDc hN (ci := 12) (q0 := 0) rfl rfl [.int p0]) rfl rfl hl.1 rfl (lv_room (Nat.le_of_ble_eq_true rfl)) dX12_feed_22 ⟨Nat.le_of_ble_eq_true rfl, Nat.le_of_ble_eq_true rfl⟩) hS (fun q _ h => hFc q h) hFc (fun uZ tZ H1 locs ht hvm hw hB hz1 hk1 hS => ?_)
    obtain ⟨o_4, o_5⟩ := uZ
    obtain ⟨hP1, hK1, hD1⟩ := hB
    rw [ht] at hP1
    obtain ⟨hP, hD⟩ := va_join (wr := []) (w1 := [(mo, .inr (12, [.int 0, .ref m1, .ref m2, .ref m3, .ref m4, .ref m5, .int o_4, .int v7, .int v8, .int v9, .int v10, .long v11, .int v12, .int v13, .int v14, .int v15, .ref m16, .ref m17, .ref m18, .ref m19, .ref m20, .ref m21, .ref m22, .ref m23, .int v24, .ref m25, .ref m26, .ref m27, .ref m28, .ref m29, .int v30, .ref m31, .ref m32, .ref m33, .int v34, .int v35, .int v36, .ref m37, .ref m38, .ref m39, .ref m40, .long v41])), (m5, .inl (k 1, 1000, .inl o_5))]) hP hD [0, 1] [] rfl rfl (by decide +kernel) (by decide +kernel) hk1 hFc hP1 hD1
    clear hK1 hP1 hD1 hPc hDc hFc
    clear hk1 hz1 ht hvm
    have hP : va_P D vwCl [(mo, .inr (12, [.int 0, .ref m1, .ref m2, .ref m3, .ref m4, .ref m5, .int o_4, .int v7, .int v8, .int v9, .int v10, .long v11, .int v12, .int v13, .int v14, .int v15, .ref m16, .ref m17, .ref m18, .ref m19, .ref m20, .ref m21, .ref m22, .ref m23, .int v24, .ref m25, .ref m26, .ref m27, .ref m28, .ref m29, .int v30, .ref m31, .ref m32, .ref m33, .int v34, .int v35, .int v36, .ref m37, .ref m38, .ref m39, .ref m40, .long v41])), (m5, .inl (k 1, 1000, .inl o_5))] H1 := hP
    have hD : va_D A [(mo, .inr (12, [.int 0, .ref m1, .ref m2, .ref m3, .ref m4, .ref m5, .int o_4, .int v7, .int v8, .int v9, .int v10, .long v11, .int v12, .int v13, .int v14, .int v15, .ref m16, .ref m17, .ref m18, .ref m19, .ref m20, .ref m21, .ref m22, .ref m23, .int v24, .ref m25, .ref m26, .ref m27, .ref m28, .ref m29, .int v30, .ref m31, .ref m32, .ref m33, .int v34, .int v35, .int v36, .ref m37, .ref m38, .ref m39, .ref m40, .long v41])), (m5, .inl (k 1, 1000, .inl o_5))] := hD
    generalize H1 = H at hP hS ⊢
    have hw_6 : (4 ≤ o_4.toInt ∧ o_4.toInt ≤ 1000) ∧ (o_4.toInt = v6.toInt + 4) := hw
    obtain ⟨hw_7, hw_8⟩ := hw_6
    clear hw
    refine lv_aload_n hx hb dX12_feed_25 rfl (lv_at hl 0 rfl) ?_
    refine lv_iload_n hx hb dX12_feed_26 rfl (lv_at hl 2 rfl) ?_
    obtain ⟨hPc, hDc, hFc⟩ := sub3 hP hD hS hA (ws' := [(mo, .inr (12, [.int 0, .ref m1, .ref m2, .ref m3, .ref m4, .ref m5, .int o_4, .int v7, .int v8, .int v9, .int v10, .long v11, .int v12, .int v13, .int v14, .int v15, .ref m16, .ref m17, .ref m18, .ref m19, .ref m20, .ref m21, .ref m22, .ref m23, .int v24, .ref m25, .ref m26, .ref m27, .ref m28, .ref m29, .int v30, .ref m31, .ref m32, .ref m33, .int v34, .int v35, .int v36, .ref m37, .ref m38, .ref m39, .ref m40, .long v41])), (m5, .inl (k 1, 1000, .inl o_5))]) [0, 1] (by decide +kernel) rfl
    refine va_callv (va_runV (C := RX12) (As := [.int p1]) (rest := []) ⟨hx, hb, hml, hown, hts⟩ (c_X12_four l D k mo p1 0 m1 m2 m3 m4 m5 o_4 v7 v8 v9 v10 v11 v12 v13 v14 v15 m16 m17 m18 m19 m20 m21 m22 m23 v24 m25 m26 m27 m28 m29 v30 m31 m32 m33 v34 v35 v36 m37 m38 m39 m40 v41 o_5 H.size (show 0 ≤ o_4.toInt ∧ o_4.toInt ≤ 996 from by omega) (show 0 ≤ v24.toInt ∧ v24.toInt ≤ 1023 from by omega)) (cwV 1 hts (gV tw_6_206 tw_6_208 tw_p_35 tw_1_13 tw_6_209) rfl rfl rfl hdV_X12_four ⟨Nat.le_of_ble_eq_true rfl, Nat.le_of_ble_eq_true rfl⟩) (cz_V hK hPc hDc hN (ci := 12) (q0 := 0) rfl rfl [.int p1]) rfl rfl hl.1 rfl (lv_room (Nat.le_of_ble_eq_true rfl)) dX12_feed_27 ⟨Nat.le_of_ble_eq_true rfl, Nat.le_of_ble_eq_true rfl⟩) hS (fun q _ h => hFc q h) hFc (fun uZ tZ H1 locs ht hvm hw hB hz1 hk1 hS => ?_)
    obtain ⟨o_10, o_11⟩ := uZ
    obtain ⟨hP1, hK1, hD1⟩ := hB
    rw [ht] at hP1
    obtain ⟨hP, hD⟩ := va_join (wr := []) (w1 := [(mo, .inr (12, [.int 0, .ref m1, .ref m2, .ref m3, .ref m4, .ref m5, .int o_10, .int v7, .int v8, .int v9, .int v10, .long v11, .int v12, .int v13, .int v14, .int v15, .ref m16, .ref m17, .ref m18, .ref m19, .ref m20, .ref m21, .ref m22, .ref m23, .int v24, .ref m25, .ref m26, .ref m27, .ref m28, .ref m29, .int v30, .ref m31, .ref m32, .ref m33, .int v34, .int v35, .int v36, .ref m37, .ref m38, .ref m39, .ref m40, .long v41])), (m5, .inl (k 1, 1000, .inl o_11))]) hP hD [0, 1] [] rfl rfl (by decide +kernel) (by decide +kernel) hk1 hFc hP1 hD1
    clear hK1 hP1 hD1 hPc hDc hFc
    clear hk1 hz1 ht hvm
    have hP : va_P D vwCl [(mo, .inr (12, [.int 0, .ref m1, .ref m2, .ref m3, .ref m4, .ref m5, .int o_10, .int v7, .int v8, .int v9, .int v10, .long v11, .int v12, .int v13, .int v14, .int v15, .ref m16, .ref m17, .ref m18, .ref m19, .ref m20, .ref m21, .ref m22, .ref m23, .int v24, .ref m25, .ref m26, .ref m27, .ref m28, .ref m29, .int v30, .ref m31, .ref m32, .ref m33, .int v34, .int v35, .int v36, .ref m37, .ref m38, .ref m39, .ref m40, .long v41])), (m5, .inl (k 1, 1000, .inl o_11))] H1 := hP
    have hD : va_D A [(mo, .inr (12, [.int 0, .ref m1, .ref m2, .ref m3, .ref m4, .ref m5, .int o_10, .int v7, .int v8, .int v9, .int v10, .long v11, .int v12, .int v13, .int v14, .int v15, .ref m16, .ref m17, .ref m18, .ref m19, .ref m20, .ref m21, .ref m22, .ref m23, .int v24, .ref m25, .ref m26, .ref m27, .ref m28, .ref m29, .int v30, .ref m31, .ref m32, .ref m33, .int v34, .int v35, .int v36, .ref m37, .ref m38, .ref m39, .ref m40, .long v41])), (m5, .inl (k 1, 1000, .inl o_11))] := hD
    generalize H1 = H at hP hS ⊢
    have hw_12 : (4 ≤ o_10.toInt ∧ o_10.toInt ≤ 1000) ∧ (o_10.toInt = o_4.toInt + 4) := hw
    obtain ⟨hw_13, hw_14⟩ := hw_12
    clear hw
    refine lv_aload_n hx hb dX12_feed_30 rfl (lv_at hl 0 rfl) ?_
    refine lv_iload_n hx hb dX12_feed_31 rfl (lv_at hl 3 rfl) ?_
    obtain ⟨hPc, hDc, hFc⟩ := sub3 hP hD hS hA (ws' := [(mo, .inr (12, [.int 0, .ref m1, .ref m2, .ref m3, .ref m4, .ref m5, .int o_10, .int v7, .int v8, .int v9, .int v10, .long v11, .int v12, .int v13, .int v14, .int v15, .ref m16, .ref m17, .ref m18, .ref m19, .ref m20, .ref m21, .ref m22, .ref m23, .int v24, .ref m25, .ref m26, .ref m27, .ref m28, .ref m29, .int v30, .ref m31, .ref m32, .ref m33, .int v34, .int v35, .int v36, .ref m37, .ref m38, .ref m39, .ref m40, .long v41])), (m5, .inl (k 1, 1000, .inl o_11))]) [0, 1] (by decide +kernel) rfl
    refine va_callv (va_runV (C := RX12) (As := [.int p2]) (rest := []) ⟨hx, hb, hml, hown, hts⟩ (c_X12_four l D k mo p2 0 m1 m2 m3 m4 m5 o_10 v7 v8 v9 v10 v11 v12 v13 v14 v15 m16 m17 m18 m19 m20 m21 m22 m23 v24 m25 m26 m27 m28 m29 v30 m31 m32 m33 v34 v35 v36 m37 m38 m39 m40 v41 o_11 H.size (show 0 ≤ o_10.toInt ∧ o_10.toInt ≤ 996 from by omega) (show 0 ≤ v24.toInt ∧ v24.toInt ≤ 1023 from by omega)) (cwV 1 hts (gV tw_6_206 tw_6_208 tw_p_35 tw_1_13 tw_6_209) rfl rfl rfl hdV_X12_four ⟨Nat.le_of_ble_eq_true rfl, Nat.le_of_ble_eq_true rfl⟩) (cz_V hK hPc hDc hN (ci := 12) (q0 := 0) rfl rfl [.int p2]) rfl rfl hl.1 rfl (lv_room (Nat.le_of_ble_eq_true rfl)) dX12_feed_32 ⟨Nat.le_of_ble_eq_true rfl, Nat.le_of_ble_eq_true rfl⟩) hS (fun q _ h => hFc q h) hFc (fun uZ tZ H1 locs ht hvm hw hB hz1 hk1 hS => ?_)
    obtain ⟨o_16, o_17⟩ := uZ
    obtain ⟨hP1, hK1, hD1⟩ := hB
    rw [ht] at hP1
    obtain ⟨hP, hD⟩ := va_join (wr := []) (w1 := [(mo, .inr (12, [.int 0, .ref m1, .ref m2, .ref m3, .ref m4, .ref m5, .int o_16, .int v7, .int v8, .int v9, .int v10, .long v11, .int v12, .int v13, .int v14, .int v15, .ref m16, .ref m17, .ref m18, .ref m19, .ref m20, .ref m21, .ref m22, .ref m23, .int v24, .ref m25, .ref m26, .ref m27, .ref m28, .ref m29, .int v30, .ref m31, .ref m32, .ref m33, .int v34, .int v35, .int v36, .ref m37, .ref m38, .ref m39, .ref m40, .long v41])), (m5, .inl (k 1, 1000, .inl o_17))]) hP hD [0, 1] [] rfl rfl (by decide +kernel) (by decide +kernel) hk1 hFc hP1 hD1
    clear hK1 hP1 hD1 hPc hDc hFc
    clear hk1 hz1 ht hvm
    have hP : va_P D vwCl [(mo, .inr (12, [.int 0, .ref m1, .ref m2, .ref m3, .ref m4, .ref m5, .int o_16, .int v7, .int v8, .int v9, .int v10, .long v11, .int v12, .int v13, .int v14, .int v15, .ref m16, .ref m17, .ref m18, .ref m19, .ref m20, .ref m21, .ref m22, .ref m23, .int v24, .ref m25, .ref m26, .ref m27, .ref m28, .ref m29, .int v30, .ref m31, .ref m32, .ref m33, .int v34, .int v35, .int v36, .ref m37, .ref m38, .ref m39, .ref m40, .long v41])), (m5, .inl (k 1, 1000, .inl o_17))] H1 := hP
    have hD : va_D A [(mo, .inr (12, [.int 0, .ref m1, .ref m2, .ref m3, .ref m4, .ref m5, .int o_16, .int v7, .int v8, .int v9, .int v10, .long v11, .int v12, .int v13, .int v14, .int v15, .ref m16, .ref m17, .ref m18, .ref m19, .ref m20, .ref m21, .ref m22, .ref m23, .int v24, .ref m25, .ref m26, .ref m27, .ref m28, .ref m29, .int v30, .ref m31, .ref m32, .ref m33, .int v34, .int v35, .int v36, .ref m37, .ref m38, .ref m39, .ref m40, .long v41])), (m5, .inl (k 1, 1000, .inl o_17))] := hD
    generalize H1 = H at hP hS ⊢
    have hw_18 : (4 ≤ o_16.toInt ∧ o_16.toInt ≤ 1000) ∧ (o_16.toInt = o_10.toInt + 4) := hw
    obtain ⟨hw_19, hw_20⟩ := hw_18
    clear hw
    refine lv_aload_n hx hb dX12_feed_35 rfl (lv_at hl 0 rfl) ?_
    refine lv_iload hx hb dX12_feed_36 (lv_at hl 4 rfl) ?_
    obtain ⟨hPc, hDc, hFc⟩ := sub3 hP hD hS hA (ws' := [(mo, .inr (12, [.int 0, .ref m1, .ref m2, .ref m3, .ref m4, .ref m5, .int o_16, .int v7, .int v8, .int v9, .int v10, .long v11, .int v12, .int v13, .int v14, .int v15, .ref m16, .ref m17, .ref m18, .ref m19, .ref m20, .ref m21, .ref m22, .ref m23, .int v24, .ref m25, .ref m26, .ref m27, .ref m28, .ref m29, .int v30, .ref m31, .ref m32, .ref m33, .int v34, .int v35, .int v36, .ref m37, .ref m38, .ref m39, .ref m40, .long v41])), (m5, .inl (k 1, 1000, .inl o_17))]) [0, 1] (by decide +kernel) rfl
    refine va_callv (va_runV (C := RX12) (As := [.int p3]) (rest := []) ⟨hx, hb, hml, hown, hts⟩ (c_X12_four l D k mo p3 0 m1 m2 m3 m4 m5 o_16 v7 v8 v9 v10 v11 v12 v13 v14 v15 m16 m17 m18 m19 m20 m21 m22 m23 v24 m25 m26 m27 m28 m29 v30 m31 m32 m33 v34 v35 v36 m37 m38 m39 m40 v41 o_17 H.size (show 0 ≤ o_16.toInt ∧ o_16.toInt ≤ 996 from by omega) (show 0 ≤ v24.toInt ∧ v24.toInt ≤ 1023 from by omega)) (cwV 1 hts (gV tw_6_206 tw_6_208 tw_p_35 tw_1_13 tw_6_209) rfl rfl rfl hdV_X12_four ⟨Nat.le_of_ble_eq_true rfl, Nat.le_of_ble_eq_true rfl⟩) (cz_V hK hPc hDc hN (ci := 12) (q0 := 0) rfl rfl [.int p3]) rfl rfl hl.1 rfl (lv_room (Nat.le_of_ble_eq_true rfl)) dX12_feed_38 ⟨Nat.le_of_ble_eq_true rfl, Nat.le_of_ble_eq_true rfl⟩) hS (fun q _ h => hFc q h) hFc (fun uZ tZ H1 locs ht hvm hw hB hz1 hk1 hS => ?_)
    obtain ⟨o_22, o_23⟩ := uZ
    obtain ⟨hP1, hK1, hD1⟩ := hB
    rw [ht] at hP1
    obtain ⟨hP, hD⟩ := va_join (wr := []) (w1 := [(mo, .inr (12, [.int 0, .ref m1, .ref m2, .ref m3, .ref m4, .ref m5, .int o_22, .int v7, .int v8, .int v9, .int v10, .long v11, .int v12, .int v13, .int v14, .int v15, .ref m16, .ref m17, .ref m18, .ref m19, .ref m20, .ref m21, .ref m22, .ref m23, .int v24, .ref m25, .ref m26, .ref m27, .ref m28, .ref m29, .int v30, .ref m31, .ref m32, .ref m33, .int v34, .int v35, .int v36, .ref m37, .ref m38, .ref m39, .ref m40, .long v41])), (m5, .inl (k 1, 1000, .inl o_23))]) hP hD [0, 1] [] rfl rfl (by decide +kernel) (by decide +kernel) hk1 hFc hP1 hD1
    clear hK1 hP1 hD1 hPc hDc hFc
    clear hk1 hz1 ht hvm
    have hP : va_P D vwCl [(mo, .inr (12, [.int 0, .ref m1, .ref m2, .ref m3, .ref m4, .ref m5, .int o_22, .int v7, .int v8, .int v9, .int v10, .long v11, .int v12, .int v13, .int v14, .int v15, .ref m16, .ref m17, .ref m18, .ref m19, .ref m20, .ref m21, .ref m22, .ref m23, .int v24, .ref m25, .ref m26, .ref m27, .ref m28, .ref m29, .int v30, .ref m31, .ref m32, .ref m33, .int v34, .int v35, .int v36, .ref m37, .ref m38, .ref m39, .ref m40, .long v41])), (m5, .inl (k 1, 1000, .inl o_23))] H1 := hP
    have hD : va_D A [(mo, .inr (12, [.int 0, .ref m1, .ref m2, .ref m3, .ref m4, .ref m5, .int o_22, .int v7, .int v8, .int v9, .int v10, .long v11, .int v12, .int v13, .int v14, .int v15, .ref m16, .ref m17, .ref m18, .ref m19, .ref m20, .ref m21, .ref m22, .ref m23, .int v24, .ref m25, .ref m26, .ref m27, .ref m28, .ref m29, .int v30, .ref m31, .ref m32, .ref m33, .int v34, .int v35, .int v36, .ref m37, .ref m38, .ref m39, .ref m40, .long v41])), (m5, .inl (k 1, 1000, .inl o_23))] := hD
    generalize H1 = H at hP hS ⊢
    have hw_24 : (4 ≤ o_22.toInt ∧ o_22.toInt ≤ 1000) ∧ (o_22.toInt = o_16.toInt + 4) := hw
    obtain ⟨hw_25, hw_26⟩ := hw_24
    clear hw
    refine lv_aload_n hx hb dX12_feed_41 rfl (lv_at hl 0 rfl) ?_
    refine lv_iload hx hb dX12_feed_42 (lv_at hl 5 rfl) ?_
    obtain ⟨hPc, hDc, hFc⟩ := sub3 hP hD hS hA (ws' := [(mo, .inr (12, [.int 0, .ref m1, .ref m2, .ref m3, .ref m4, .ref m5, .int o_22, .int v7, .int v8, .int v9, .int v10, .long v11, .int v12, .int v13, .int v14, .int v15, .ref m16, .ref m17, .ref m18, .ref m19, .ref m20, .ref m21, .ref m22, .ref m23, .int v24, .ref m25, .ref m26, .ref m27, .ref m28, .ref m29, .int v30, .ref m31, .ref m32, .ref m33, .int v34, .int v35, .int v36, .ref m37, .ref m38, .ref m39, .ref m40, .long v41])), (m5, .inl (k 1, 1000, .inl o_23))]) [0, 1] (by decide +kernel) rfl
    refine va_callv (va_runV (C := RX12) (As := [.int p4]) (rest := []) ⟨hx, hb, hml, hown, hts⟩ (c_X12_four l D k mo p4 0 m1 m2 m3 m4 m5 o_22 v7 v8 v9 v10 v11 v12 v13 v14 v15 m16 m17 m18 m19 m20 m21 m22 m23 v24 m25 m26 m27 m28 m29 v30 m31 m32 m33 v34 v35 v36 m37 m38 m39 m40 v41 o_23 H.size (show 0 ≤ o_22.toInt ∧ o_22.toInt ≤ 996 from by omega) (show 0 ≤ v24.toInt ∧ v24.toInt ≤ 1023 from by omega)) (cwV 1 hts (gV tw_6_206 tw_6_208 tw_p_35 tw_1_13 tw_6_209) rfl rfl rfl hdV_X12_four ⟨Nat.le_of_ble_eq_true rfl, Nat.le_of_ble_eq_true rfl⟩) (cz_V hK hPc hDc hN (ci := 12) (q0 := 0) rfl rfl [.int p4]) rfl rfl hl.1 rfl (lv_room (Nat.le_of_ble_eq_true rfl)) dX12_feed_44 ⟨Nat.le_of_ble_eq_true rfl, Nat.le_of_ble_eq_true rfl⟩) hS (fun q _ h => hFc q h) hFc (fun uZ tZ H1 locs ht hvm hw hB hz1 hk1 hS => ?_)
    obtain ⟨o_28, o_29⟩ := uZ
    obtain ⟨hP1, hK1, hD1⟩ := hB
    rw [ht] at hP1
    obtain ⟨hP, hD⟩ := va_join (wr := []) (w1 := [(mo, .inr (12, [.int 0, .ref m1, .ref m2, .ref m3, .ref m4, .ref m5, .int o_28, .int v7, .int v8, .int v9, .int v10, .long v11, .int v12, .int v13, .int v14, .int v15, .ref m16, .ref m17, .ref m18, .ref m19, .ref m20, .ref m21, .ref m22, .ref m23, .int v24, .ref m25, .ref m26, .ref m27, .ref m28, .ref m29, .int v30, .ref m31, .ref m32, .ref m33, .int v34, .int v35, .int v36, .ref m37, .ref m38, .ref m39, .ref m40, .long v41])), (m5, .inl (k 1, 1000, .inl o_29))]) hP hD [0, 1] [] rfl rfl (by decide +kernel) (by decide +kernel) hk1 hFc hP1 hD1
    clear hK1 hP1 hD1 hPc hDc hFc
    clear hk1 hz1 ht hvm
    have hP : va_P D vwCl [(mo, .inr (12, [.int 0, .ref m1, .ref m2, .ref m3, .ref m4, .ref m5, .int o_28, .int v7, .int v8, .int v9, .int v10, .long v11, .int v12, .int v13, .int v14, .int v15, .ref m16, .ref m17, .ref m18, .ref m19, .ref m20, .ref m21, .ref m22, .ref m23, .int v24, .ref m25, .ref m26, .ref m27, .ref m28, .ref m29, .int v30, .ref m31, .ref m32, .ref m33, .int v34, .int v35, .int v36, .ref m37, .ref m38, .ref m39, .ref m40, .long v41])), (m5, .inl (k 1, 1000, .inl o_29))] H1 := hP
    have hD : va_D A [(mo, .inr (12, [.int 0, .ref m1, .ref m2, .ref m3, .ref m4, .ref m5, .int o_28, .int v7, .int v8, .int v9, .int v10, .long v11, .int v12, .int v13, .int v14, .int v15, .ref m16, .ref m17, .ref m18, .ref m19, .ref m20, .ref m21, .ref m22, .ref m23, .int v24, .ref m25, .ref m26, .ref m27, .ref m28, .ref m29, .int v30, .ref m31, .ref m32, .ref m33, .int v34, .int v35, .int v36, .ref m37, .ref m38, .ref m39, .ref m40, .long v41])), (m5, .inl (k 1, 1000, .inl o_29))] := hD
    generalize H1 = H at hP hS ⊢
    have hw_30 : (4 ≤ o_28.toInt ∧ o_28.toInt ≤ 1000) ∧ (o_28.toInt = o_22.toInt + 4) := hw
    obtain ⟨hw_31, hw_32⟩ := hw_30
    clear hw
    refine lv_aload_n hx hb dX12_feed_47 rfl (lv_at hl 0 rfl) ?_
    refine va_get (D := D) (ci := 12) (v := .int o_28) (C := RX12) (T := TX12) (N := 42) hx hb hts iT_X12 hown hK hP 0 rfl rfl 6 (by decide) (hts _ tw_6_59) (fun _ h9 => h9) rfl dX12_feed_48 ?_
    obtain ⟨hP9, hD9⟩ := sub2 hP hD (ws' := [(mo, .inr (12, [.int 0, .ref m1, .ref m2, .ref m3, .ref m4, .ref m5, .int o_28, .int v7, .int v8, .int v9, .int v10, .long v11, .int v12, .int v13, .int v14, .int v15, .ref m16, .ref m17, .ref m18, .ref m19, .ref m20, .ref m21, .ref m22, .ref m23, .int v24, .ref m25, .ref m26, .ref m27, .ref m28, .ref m29, .int v30, .ref m31, .ref m32, .ref m33, .int v34, .int v35, .int v36, .ref m37, .ref m38, .ref m39, .ref m40, .long v41])), (m5, .inl (k 1, 1000, .inl o_29))]) [0, 1] (by decide +kernel) rfl
    exact W.iret (v := o_28) hx hb hr (fun tZ ht hW => ⟨⟨o_28, (0, o_28, o_29), rfl, ⟨(show (-1) ≤ o_28.toInt ∧ o_28.toInt ≤ 1000 from by omega), (show 0 ≤ 0 ∧ 0 ≤ 0 from by omega), (show 20 ≤ o_28.toInt ∧ o_28.toInt ≤ 1000 from by omega)⟩, by rw [ht]; exact hP9, va_K.moved hW.alike hK, hD9⟩, hS.F ht⟩) hS.2.2 dX12_feed_51
  · skip
    have zh_2 : 1000 < x_1.toInt := z_nle h_2
    refine lv_iconst (v := (-1)) hx hb dX12_feed_18 (by decide) ?_
    obtain ⟨hP9, hD9⟩ := sub2 hP hD (ws' := [(mo, .inr (12, [.int 0, .ref m1, .ref m2, .ref m3, .ref m4, .ref m5, .int v6, .int v7, .int v8, .int v9, .int v10, .long v11, .int v12, .int v13, .int v14, .int v15, .ref m16, .ref m17, .ref m18, .ref m19, .ref m20, .ref m21, .ref m22, .ref m23, .int v24, .ref m25, .ref m26, .ref m27, .ref m28, .ref m29, .int v30, .ref m31, .ref m32, .ref m33, .int v34, .int v35, .int v36, .ref m37, .ref m38, .ref m39, .ref m40, .long v41])), (m5, .inl (k 1, 1000, .inl f5))]) [0, 1] (by decide +kernel) rfl
    exact W.iret (v := (-1)) hx hb hr (fun tZ ht hW => ⟨⟨(-1), (0, v6, f5), rfl, ⟨(show (-1) ≤ (-1) ∧ (-1) ≤ 1000 from by omega), (show 0 ≤ 0 ∧ 0 ≤ 0 from by omega), (show 20 ≤ v6.toInt ∧ v6.toInt ≤ 1000 from by omega)⟩, by rw [ht]; exact hP9, va_K.moved hW.alike hK, hD9⟩, hS.F ht⟩) hS.2.2 dX12_feed_19
set_option maxHeartbeats 4000000 in
set_option maxRecDepth 100000 in
theorem c_X12_end (l : Launch) (D : va_G) (k : Nat → ClassId) (mo : Nat) (p0 : Int32) (v0 : Int32) (m1 : Nat) (m2 : Nat) (m3 : Nat) (m4 : Nat) (m5 : Nat) (v6 : Int32) (v7 : Int32) (v8 : Int32) (v9 : Int32) (v10 : Int32) (v11 : Int64) (v12 : Int32) (v13 : Int32) (v14 : Int32) (v15 : Int32) (m16 : Nat) (m17 : Nat) (m18 : Nat) (m19 : Nat) (m20 : Nat) (m21 : Nat) (m22 : Nat) (m23 : Nat) (v24 : Int32) (m25 : Nat) (m26 : Nat) (m27 : Nat) (m28 : Nat) (m29 : Nat) (v30 : Int32) (m31 : Nat) (m32 : Nat) (m33 : Nat) (v34 : Int32) (v35 : Int32) (v36 : Int32) (m37 : Nat) (m38 : Nat) (m39 : Nat) (m40 : Nat) (v41 : Int64) (sz : Nat) (h_v6 : 0 ≤ v6.toInt ∧ v6.toInt ≤ 1000) (h_v24 : 0 ≤ v24.toInt ∧ v24.toInt ≤ 1023) : Met l yX12_end (ww yX12_end cX12_end 2 (some .int)) ({ frames := 1, cells := 0, slots := 0, locals := 25 }) (Pre0 D k [(mo, .inr (12, [.int v0, .ref m1, .ref m2, .ref m3, .ref m4, .ref m5, .int v6, .int v7, .int v8, .int v9, .int v10, .long v11, .int v12, .int v13, .int v14, .int v15, .ref m16, .ref m17, .ref m18, .ref m19, .ref m20, .ref m21, .ref m22, .ref m23, .int v24, .ref m25, .ref m26, .ref m27, .ref m28, .ref m29, .int v30, .ref m31, .ref m32, .ref m33, .int v34, .int v35, .int v36, .ref m37, .ref m38, .ref m39, .ref m40, .long v41]))] sz [.ref mo, .int p0]) (va_Qi (fun (r : Int32) (u : Int32 × Int32) => match u with | (v0z, v6z) => ((-1) ≤ r.toInt ∧ r.toInt ≤ 1000) ∧ (0 ≤ v0z.toInt ∧ v0z.toInt ≤ 0) ∧ (0 ≤ v6z.toInt ∧ v6z.toInt ≤ 1000)) (fun (u : Int32 × Int32) tZ => match u with | (v0z, v6z) => Bw D k (va_A [(mo, .inr (12, [.int v0, .ref m1, .ref m2, .ref m3, .ref m4, .ref m5, .int v6, .int v7, .int v8, .int v9, .int v10, .long v11, .int v12, .int v13, .int v14, .int v15, .ref m16, .ref m17, .ref m18, .ref m19, .ref m20, .ref m21, .ref m22, .ref m23, .int v24, .ref m25, .ref m26, .ref m27, .ref m28, .ref m29, .int v30, .ref m31, .ref m32, .ref m33, .int v34, .int v35, .int v36, .ref m37, .ref m38, .ref m39, .ref m40, .long v41]))] sz) [(mo, .inr (12, [.int v0z, .ref m1, .ref m2, .ref m3, .ref m4, .ref m5, .int v6z, .int v7, .int v8, .int v9, .int v10, .long v11, .int v12, .int v13, .int v14, .int v15, .ref m16, .ref m17, .ref m18, .ref m19, .ref m20, .ref m21, .ref m22, .ref m23, .int v24, .ref m25, .ref m26, .ref m27, .ref m28, .ref m29, .int v30, .ref m31, .ref m32, .ref m33, .int v34, .int v35, .int v36, .ref m37, .ref m38, .ref m39, .ref m40, .long v41]))] tZ) (va_A [(mo, .inr (12, [.int v0, .ref m1, .ref m2, .ref m3, .ref m4, .ref m5, .int v6, .int v7, .int v8, .int v9, .int v10, .long v11, .int v12, .int v13, .int v14, .int v15, .ref m16, .ref m17, .ref m18, .ref m19, .ref m20, .ref m21, .ref m22, .ref m23, .int v24, .ref m25, .ref m26, .ref m27, .ref m28, .ref m29, .int v30, .ref m31, .ref m32, .ref m33, .int v34, .int v35, .int v36, .ref m37, .ref m38, .ref m39, .ref m40, .long v41]))] sz)) 0 0 (va_A [(mo, .inr (12, [.int v0, .ref m1, .ref m2, .ref m3, .ref m4, .ref m5, .int v6, .int v7, .int v8, .int v9, .int v10, .long v11, .int v12, .int v13, .int v14, .int v15, .ref m16, .ref m17, .ref m18, .ref m19, .ref m20, .ref m21, .ref m22, .ref m23, .int v24, .ref m25, .ref m26, .ref m27, .ref m28, .ref m29, .int v30, .ref m31, .ref m32, .ref m33, .int v34, .int v35, .int v36, .ref m37, .ref m38, .ref m39, .ref m40, .long v41]))] sz) := by
  refine Met.ofW (cc := cX12_end) (maxL := 2) (ret := (some .int)) (by decide +kernel) rfl ?_
  intro p e s m args below meth c s₁ B hml hv
  obtain ⟨rfl, hsz, hP, hK, hD0, hN⟩ := hv
  have hx := B.exec
  have hb := B.bytes
  have hr := B.returns
  have hts : ∀ w ∈ TT, w.before _ s = true := fun w h => atoms_spec (ws := ww yX12_end cX12_end 2 (some .int)) B.pre w (List.mem_cons_of_mem _ h)
  have hown : s.vm.findClass RX12 = some m.cls := findClass_of_methodNamed B.named
  have hlocks := B.notSynchronized
  subst hsz
  have hD := hD0.self (sz := s.heap.size)
  generalize hAe : va_A [(mo, .inr (12, [.int v0, .ref m1, .ref m2, .ref m3, .ref m4, .ref m5, .int v6, .int v7, .int v8, .int v9, .int v10, .long v11, .int v12, .int v13, .int v14, .int v15, .ref m16, .ref m17, .ref m18, .ref m19, .ref m20, .ref m21, .ref m22, .ref m23, .int v24, .ref m25, .ref m26, .ref m27, .ref m28, .ref m29, .int v30, .ref m31, .ref m32, .ref m33, .int v34, .int v35, .int v36, .ref m37, .ref m38, .ref m39, .ref m40, .long v41]))] s.heap.size = A at hD ⊢
  have hA : ∀ q : Nat, s.heap.size ≤ q → A q := fun q h => by rw [← hAe]; exact Or.inr h
  have hS : va_S A s.heap s.heap [] := va_S.rf
  have hl := lv_entry ([.ref mo, .int p0]) (n := 2) (Nat.le_of_ble_eq_true rfl)
  rw [lg_entry_eq]
  generalize (lg_sl ([.ref mo, .int p0]) ++ List.replicate (2 - (lg_sl ([.ref mo, .int p0])).length) Slot.unset).toArray = ls at hl ⊢
  have hl : lv_has ls 2 [(0, .ref mo), (1, .int p0)] := hl
  refine lv_aload_n hx hb dX12_end_0 rfl (lv_at hl 0 rfl) ?_
  refine lv_iconst (v := 0) hx hb dX12_end_1 (by decide) ?_
  refine va_put (D := D) (ci := 12) (v := .int 0) (ty := tyX12 0) (C := RX12) (T := TX12) (N := 42) hx hb hts iT_X12 tyX12 tyX12_ok nmX12 hown hK hP hD hS 0 rfl rfl 0 (by decide) (hts _ tw_6_53) (fun _ h9 => h9) rfl (tyX12_ok 0 (by decide)) rfl rfl (Nat.le_of_ble_eq_true rfl) dX12_end_2 (fun H locs hP hD hS => ?_)
  have hP : va_P D vwCl [(mo, .inr (12, [.int 0, .ref m1, .ref m2, .ref m3, .ref m4, .ref m5, .int v6, .int v7, .int v8, .int v9, .int v10, .long v11, .int v12, .int v13, .int v14, .int v15, .ref m16, .ref m17, .ref m18, .ref m19, .ref m20, .ref m21, .ref m22, .ref m23, .int v24, .ref m25, .ref m26, .ref m27, .ref m28, .ref m29, .int v30, .ref m31, .ref m32, .ref m33, .int v34, .int v35, .int v36, .ref m37, .ref m38, .ref m39, .ref m40, .long v41]))] H := hP
  have hD : va_D A [(mo, .inr (12, [.int 0, .ref m1, .ref m2, .ref m3, .ref m4, .ref m5, .int v6, .int v7, .int v8, .int v9, .int v10, .long v11, .int v12, .int v13, .int v14, .int v15, .ref m16, .ref m17, .ref m18, .ref m19, .ref m20, .ref m21, .ref m22, .ref m23, .int v24, .ref m25, .ref m26, .ref m27, .ref m28, .ref m29, .int v30, .ref m31, .ref m32, .ref m33, .int v34, .int v35, .int v36, .ref m37, .ref m38, .ref m39, .ref m40, .long v41]))] := hD
  refine lv_iload_n hx hb dX12_end_5 rfl (lv_at hl 1 rfl) ?_
  refine lv_i2l (v := p0.toInt64) hx hb dX12_end_6 rfl ?_
  refine lv_lconst (v := 0) hx hb dX12_end_7 (by decide) ?_
  refine lv_aload_n hx hb dX12_end_8 rfl (lv_at hl 0 rfl) ?_
  refine va_get (D := D) (ci := 12) (v := .int v6) (C := RX12) (T := TX12) (N := 42) hx hb hts iT_X12 hown hK hP 0 rfl rfl 6 (by decide) (hts _ tw_6_59) (fun _ h9 => h9) rfl dX12_end_9 ?_
  refine lv_i2l (v := v6.toInt64) hx hb dX12_end_12 rfl ?_
  obtain ⟨hPc, hDc, hFc⟩ := sub3 hP hD hS hA (ws' := []) [] (by decide +kernel) rfl
  refine va_calli (va_runS (As := [.long p0.toInt64, .long 0, .long v6.toInt64]) (rest := []) ⟨hx, hb, hml, hown, hts⟩ (c_X12_in l D k p0.toInt64 0 v6.toInt64 H.size) (va_cwS 3 hts (gS tw_6_188 tw_6_189 tw_1_13 tw_6_190) rfl rfl rfl hdS_X12_in ⟨Nat.le_of_ble_eq_true rfl, Nat.le_of_ble_eq_true rfl⟩) (cz_S hK hPc hDc hN [.long p0.toInt64, .long 0, .long v6.toInt64]) rfl rfl hl.1 rfl (lv_room (Nat.le_of_ble_eq_true rfl)) dX12_end_13 ⟨Nat.le_of_ble_eq_true rfl, Nat.le_of_ble_eq_true rfl⟩) hS (fun q _ h => hFc q h) hFc (fun r_1 uZ tZ H1 locs ht hvm hw hB hz1 hk1 hS => ?_)
  obtain ⟨hP1, hK1, hD1⟩ := hB
  rw [ht] at hP1
  obtain ⟨hP, hD⟩ := va_join (wr := [(mo, .inr (12, [.int 0, .ref m1, .ref m2, .ref m3, .ref m4, .ref m5, .int v6, .int v7, .int v8, .int v9, .int v10, .long v11, .int v12, .int v13, .int v14, .int v15, .ref m16, .ref m17, .ref m18, .ref m19, .ref m20, .ref m21, .ref m22, .ref m23, .int v24, .ref m25, .ref m26, .ref m27, .ref m28, .ref m29, .int v30, .ref m31, .ref m32, .ref m33, .int v34, .int v35, .int v36, .ref m37, .ref m38, .ref m39, .ref m40, .long v41]))]) (w1 := []) hP hD [] [0] rfl rfl (by decide +kernel) (by decide +kernel) hk1 hFc hP1 hD1
  clear hK1 hP1 hD1 hPc hDc hFc
  clear hk1 hz1 ht hvm
  have hP : va_P D vwCl [(mo, .inr (12, [.int 0, .ref m1, .ref m2, .ref m3, .ref m4, .ref m5, .int v6, .int v7, .int v8, .int v9, .int v10, .long v11, .int v12, .int v13, .int v14, .int v15, .ref m16, .ref m17, .ref m18, .ref m19, .ref m20, .ref m21, .ref m22, .ref m23, .int v24, .ref m25, .ref m26, .ref m27, .ref m28, .ref m29, .int v30, .ref m31, .ref m32, .ref m33, .int v34, .int v35, .int v36, .ref m37, .ref m38, .ref m39, .ref m40, .long v41]))] H1 := hP
  have hD : va_D A [(mo, .inr (12, [.int 0, .ref m1, .ref m2, .ref m3, .ref m4, .ref m5, .int v6, .int v7, .int v8, .int v9, .int v10, .long v11, .int v12, .int v13, .int v14, .int v15, .ref m16, .ref m17, .ref m18, .ref m19, .ref m20, .ref m21, .ref m22, .ref m23, .int v24, .ref m25, .ref m26, .ref m27, .ref m28, .ref m29, .int v30, .ref m31, .ref m32, .ref m33, .int v34, .int v35, .int v36, .ref m37, .ref m38, .ref m39, .ref m40, .long v41]))] := hD
  generalize H1 = H at hP hS ⊢
  have hw_2 : (0 ≤ r_1.toInt ∧ r_1.toInt ≤ 1) ∧ ((r_1.toInt = 1 ∧ 0 ≤ p0.toInt64.toInt ∧ p0.toInt64.toInt ≤ v6.toInt64.toInt) ∨ (r_1.toInt = 0 ∧ (p0.toInt64.toInt < 0 ∨ v6.toInt64.toInt < p0.toInt64.toInt))) := hw
  obtain ⟨hw_3, hw_4⟩ := hw_2
  clear hw
  simp only [Int32.toInt_toInt64] at hw_3 hw_4
  refine lv_if_ne (tgt := 21) hx hb dX12_end_16 (by decide) (fun h_5 => ?_) (fun h_5 => ?_)
  · skip
    have zh_5 : ¬ r_1.toInt = 0 := z_ne h_5
    refine lv_aload_n hx hb dX12_end_21 rfl (lv_at hl 0 rfl) ?_
    refine lv_iload_n hx hb dX12_end_22 rfl (lv_at hl 1 rfl) ?_
    refine va_put (D := D) (ci := 12) (v := .int p0) (ty := tyX12 6) (C := RX12) (T := TX12) (N := 42) hx hb hts iT_X12 tyX12 tyX12_ok nmX12 hown hK hP hD hS 0 rfl rfl 6 (by decide) (hts _ tw_6_59) (fun _ h9 => h9) rfl (tyX12_ok 6 (by decide)) rfl rfl (Nat.le_of_ble_eq_true rfl) dX12_end_23 (fun H locs hP hD hS => ?_)
    have hP : va_P D vwCl [(mo, .inr (12, [.int 0, .ref m1, .ref m2, .ref m3, .ref m4, .ref m5, .int p0, .int v7, .int v8, .int v9, .int v10, .long v11, .int v12, .int v13, .int v14, .int v15, .ref m16, .ref m17, .ref m18, .ref m19, .ref m20, .ref m21, .ref m22, .ref m23, .int v24, .ref m25, .ref m26, .ref m27, .ref m28, .ref m29, .int v30, .ref m31, .ref m32, .ref m33, .int v34, .int v35, .int v36, .ref m37, .ref m38, .ref m39, .ref m40, .long v41]))] H := hP
    have hD : va_D A [(mo, .inr (12, [.int 0, .ref m1, .ref m2, .ref m3, .ref m4, .ref m5, .int p0, .int v7, .int v8, .int v9, .int v10, .long v11, .int v12, .int v13, .int v14, .int v15, .ref m16, .ref m17, .ref m18, .ref m19, .ref m20, .ref m21, .ref m22, .ref m23, .int v24, .ref m25, .ref m26, .ref m27, .ref m28, .ref m29, .int v30, .ref m31, .ref m32, .ref m33, .int v34, .int v35, .int v36, .ref m37, .ref m38, .ref m39, .ref m40, .long v41]))] := hD
    refine lv_iload_n hx hb dX12_end_26 rfl (lv_at hl 1 rfl) ?_
    obtain ⟨hP9, hD9⟩ := sub2 hP hD (ws' := [(mo, .inr (12, [.int 0, .ref m1, .ref m2, .ref m3, .ref m4, .ref m5, .int p0, .int v7, .int v8, .int v9, .int v10, .long v11, .int v12, .int v13, .int v14, .int v15, .ref m16, .ref m17, .ref m18, .ref m19, .ref m20, .ref m21, .ref m22, .ref m23, .int v24, .ref m25, .ref m26, .ref m27, .ref m28, .ref m29, .int v30, .ref m31, .ref m32, .ref m33, .int v34, .int v35, .int v36, .ref m37, .ref m38, .ref m39, .ref m40, .long v41]))]) [0] (by decide +kernel) rfl
    exact W.iret (v := p0) hx hb hr (fun tZ ht hW => ⟨⟨p0, (0, p0), rfl, ⟨(show (-1) ≤ p0.toInt ∧ p0.toInt ≤ 1000 from by omega), (show 0 ≤ 0 ∧ 0 ≤ 0 from by omega), (show 0 ≤ p0.toInt ∧ p0.toInt ≤ 1000 from by omega)⟩, by rw [ht]; exact hP9, va_K.moved hW.alike hK, hD9⟩, hS.F ht⟩) hS.2.2 dX12_end_27
  · skip
    have zh_5 : r_1.toInt = 0 := z_eq h_5
    refine lv_iconst (v := (-1)) hx hb dX12_end_19 (by decide) ?_
    obtain ⟨hP9, hD9⟩ := sub2 hP hD (ws' := [(mo, .inr (12, [.int 0, .ref m1, .ref m2, .ref m3, .ref m4, .ref m5, .int v6, .int v7, .int v8, .int v9, .int v10, .long v11, .int v12, .int v13, .int v14, .int v15, .ref m16, .ref m17, .ref m18, .ref m19, .ref m20, .ref m21, .ref m22, .ref m23, .int v24, .ref m25, .ref m26, .ref m27, .ref m28, .ref m29, .int v30, .ref m31, .ref m32, .ref m33, .int v34, .int v35, .int v36, .ref m37, .ref m38, .ref m39, .ref m40, .long v41]))]) [0] (by decide +kernel) rfl
    exact W.iret (v := (-1)) hx hb hr (fun tZ ht hW => ⟨⟨(-1), (0, v6), rfl, ⟨(show (-1) ≤ (-1) ∧ (-1) ≤ 1000 from by omega), (show 0 ≤ 0 ∧ 0 ≤ 0 from by omega), (show 0 ≤ v6.toInt ∧ v6.toInt ≤ 1000 from by omega)⟩, by rw [ht]; exact hP9, va_K.moved hW.alike hK, hD9⟩, hS.F ht⟩) hS.2.2 dX12_end_20
set_option maxHeartbeats 4000000 in
set_option maxRecDepth 100000 in
theorem c_X12_isByte (l : Launch) (D : va_G) (k : Nat → ClassId) (mo : Nat) (p0 : Int32) (p1 : Int32) (p2 : Int32) (v0 : Int32) (m1 : Nat) (m2 : Nat) (m3 : Nat) (m4 : Nat) (m5 : Nat) (v6 : Int32) (v7 : Int32) (v8 : Int32) (v9 : Int32) (v10 : Int32) (v11 : Int64) (v12 : Int32) (v13 : Int32) (v14 : Int32) (v15 : Int32) (m16 : Nat) (m17 : Nat) (m18 : Nat) (m19 : Nat) (m20 : Nat) (m21 : Nat) (m22 : Nat) (m23 : Nat) (v24 : Int32) (m25 : Nat) (m26 : Nat) (m27 : Nat) (m28 : Nat) (m29 : Nat) (v30 : Int32) (m31 : Nat) (m32 : Nat) (m33 : Nat) (v34 : Int32) (v35 : Int32) (v36 : Int32) (m37 : Nat) (m38 : Nat) (m39 : Nat) (m40 : Nat) (v41 : Int64) (f5 : Nat → Int32) (sz : Nat) (h_p0 : 0 ≤ p0.toInt ∧ p0.toInt ≤ 1000) (h_v6 : 0 ≤ v6.toInt ∧ v6.toInt ≤ 1000) (h_v24 : 0 ≤ v24.toInt ∧ v24.toInt ≤ 1023) : Met l yX12_isByte (ww yX12_isByte cX12_isByte 4 (some .boolean)) ({ frames := 0, cells := 0, slots := 0, locals := 0 }) (Pre0 D k [(mo, .inr (12, [.int v0, .ref m1, .ref m2, .ref m3, .ref m4, .ref m5, .int v6, .int v7, .int v8, .int v9, .int v10, .long v11, .int v12, .int v13, .int v14, .int v15, .ref m16, .ref m17, .ref m18, .ref m19, .ref m20, .ref m21, .ref m22, .ref m23, .int v24, .ref m25, .ref m26, .ref m27, .ref m28, .ref m29, .int v30, .ref m31, .ref m32, .ref m33, .int v34, .int v35, .int v36, .ref m37, .ref m38, .ref m39, .ref m40, .long v41])), (m5, .inl (k 1, 1000, .inl f5))] sz [.ref mo, .int p0, .int p1, .int p2]) (va_Qi (fun (r : Int32) (_ : Unit) => (0 ≤ r.toInt ∧ r.toInt ≤ 1) ∧ (r = isByteOf f5 v6 p0 p1 p2) ∧ ((r.toInt = 1 ∧ p0.toInt < v6.toInt) ∨ r.toInt = 0)) (fun (_ : Unit) tZ => Bw D k (va_A [(mo, .inr (12, [.int v0, .ref m1, .ref m2, .ref m3, .ref m4, .ref m5, .int v6, .int v7, .int v8, .int v9, .int v10, .long v11, .int v12, .int v13, .int v14, .int v15, .ref m16, .ref m17, .ref m18, .ref m19, .ref m20, .ref m21, .ref m22, .ref m23, .int v24, .ref m25, .ref m26, .ref m27, .ref m28, .ref m29, .int v30, .ref m31, .ref m32, .ref m33, .int v34, .int v35, .int v36, .ref m37, .ref m38, .ref m39, .ref m40, .long v41])), (m5, .inl (k 1, 1000, .inl f5))] sz) [(mo, .inr (12, [.int v0, .ref m1, .ref m2, .ref m3, .ref m4, .ref m5, .int v6, .int v7, .int v8, .int v9, .int v10, .long v11, .int v12, .int v13, .int v14, .int v15, .ref m16, .ref m17, .ref m18, .ref m19, .ref m20, .ref m21, .ref m22, .ref m23, .int v24, .ref m25, .ref m26, .ref m27, .ref m28, .ref m29, .int v30, .ref m31, .ref m32, .ref m33, .int v34, .int v35, .int v36, .ref m37, .ref m38, .ref m39, .ref m40, .long v41])), (m5, .inl (k 1, 1000, .inl f5))] tZ) (va_A [(mo, .inr (12, [.int v0, .ref m1, .ref m2, .ref m3, .ref m4, .ref m5, .int v6, .int v7, .int v8, .int v9, .int v10, .long v11, .int v12, .int v13, .int v14, .int v15, .ref m16, .ref m17, .ref m18, .ref m19, .ref m20, .ref m21, .ref m22, .ref m23, .int v24, .ref m25, .ref m26, .ref m27, .ref m28, .ref m29, .int v30, .ref m31, .ref m32, .ref m33, .int v34, .int v35, .int v36, .ref m37, .ref m38, .ref m39, .ref m40, .long v41])), (m5, .inl (k 1, 1000, .inl f5))] sz)) 0 0 (va_A [(mo, .inr (12, [.int v0, .ref m1, .ref m2, .ref m3, .ref m4, .ref m5, .int v6, .int v7, .int v8, .int v9, .int v10, .long v11, .int v12, .int v13, .int v14, .int v15, .ref m16, .ref m17, .ref m18, .ref m19, .ref m20, .ref m21, .ref m22, .ref m23, .int v24, .ref m25, .ref m26, .ref m27, .ref m28, .ref m29, .int v30, .ref m31, .ref m32, .ref m33, .int v34, .int v35, .int v36, .ref m37, .ref m38, .ref m39, .ref m40, .long v41])), (m5, .inl (k 1, 1000, .inl f5))] sz) := by
  refine Met.ofW (cc := cX12_isByte) (maxL := 4) (ret := (some .boolean)) (by decide +kernel) rfl ?_
  intro p e s m args below meth c s₁ B hml hv
  obtain ⟨rfl, hsz, hP, hK, hD0, hN⟩ := hv
  have hx := B.exec
  have hb := B.bytes
  have hr := B.returns
  have hts : ∀ w ∈ TT, w.before _ s = true := fun w h => atoms_spec (ws := ww yX12_isByte cX12_isByte 4 (some .boolean)) B.pre w (List.mem_cons_of_mem _ h)
  have hown : s.vm.findClass RX12 = some m.cls := findClass_of_methodNamed B.named
  have hlocks := B.notSynchronized
  subst hsz
  have hD := hD0.self (sz := s.heap.size)
  generalize hAe : va_A [(mo, .inr (12, [.int v0, .ref m1, .ref m2, .ref m3, .ref m4, .ref m5, .int v6, .int v7, .int v8, .int v9, .int v10, .long v11, .int v12, .int v13, .int v14, .int v15, .ref m16, .ref m17, .ref m18, .ref m19, .ref m20, .ref m21, .ref m22, .ref m23, .int v24, .ref m25, .ref m26, .ref m27, .ref m28, .ref m29, .int v30, .ref m31, .ref m32, .ref m33, .int v34, .int v35, .int v36, .ref m37, .ref m38, .ref m39, .ref m40, .long v41])), (m5, .inl (k 1, 1000, .inl f5))] s.heap.size = A at hD ⊢
  have hA : ∀ q : Nat, s.heap.size ≤ q → A q := fun q h => by rw [← hAe]; exact Or.inr h
  have hS : va_S A s.heap s.heap [] := va_S.rf
  have hl := lv_entry ([.ref mo, .int p0, .int p1, .int p2]) (n := 4) (Nat.le_of_ble_eq_true rfl)
  rw [lg_entry_eq]
  generalize (lg_sl ([.ref mo, .int p0, .int p1, .int p2]) ++ List.replicate (4 - (lg_sl ([.ref mo, .int p0, .int p1, .int p2])).length) Slot.unset).toArray = ls at hl ⊢
  have hl : lv_has ls 4 [(0, .ref mo), (1, .int p0), (2, .int p1), (3, .int p2)] := hl
  refine lv_iload_n hx hb dX12_isByte_0 rfl (lv_at hl 1 rfl) ?_
  refine lv_aload_n hx hb dX12_isByte_1 rfl (lv_at hl 0 rfl) ?_
  refine va_get (D := D) (ci := 12) (v := .int v6) (C := RX12) (T := TX12) (N := 42) hx hb hts iT_X12 hown hK hP 0 rfl rfl 6 (by decide) (hts _ tw_6_59) (fun _ h9 => h9) rfl dX12_isByte_2 ?_
  refine lv_icmp_ge (tgt := 32) hx hb dX12_isByte_5 (by decide) (fun h_1 => ?_) (fun h_1 => ?_)
  · skip
    have zh_1 : v6.toInt ≤ p0.toInt := z_le h_1
    refine lv_iconst (v := 0) hx hb dX12_isByte_32 (by decide) ?_
    obtain ⟨hP9, hD9⟩ := sub2 hP hD (ws' := [(mo, .inr (12, [.int v0, .ref m1, .ref m2, .ref m3, .ref m4, .ref m5, .int v6, .int v7, .int v8, .int v9, .int v10, .long v11, .int v12, .int v13, .int v14, .int v15, .ref m16, .ref m17, .ref m18, .ref m19, .ref m20, .ref m21, .ref m22, .ref m23, .int v24, .ref m25, .ref m26, .ref m27, .ref m28, .ref m29, .int v30, .ref m31, .ref m32, .ref m33, .int v34, .int v35, .int v36, .ref m37, .ref m38, .ref m39, .ref m40, .long v41])), (m5, .inl (k 1, 1000, .inl f5))]) [0, 1] (by decide +kernel) rfl
    exact W.zret (v := 0) hx hb hr (by decide) (fun tZ ht hW => ⟨⟨0, (), rfl, ⟨(show 0 ≤ 0 ∧ 0 ≤ 1 from by omega), (show 0 = isByteOf f5 v6 p0 p1 p2 from by unfold isByteOf; rw [if_neg (by omega)]), (show (0 = 1 ∧ p0.toInt < v6.toInt) ∨ 0 = 0 from by omega)⟩, by rw [ht]; exact hP9, va_K.moved hW.alike hK, hD9⟩, hS.F ht⟩) hS.2.2 dX12_isByte_33
  · skip
    have zh_1 : p0.toInt < v6.toInt := z_nle h_1
    refine lv_aload_n hx hb dX12_isByte_8 rfl (lv_at hl 0 rfl) ?_
    refine va_get (D := D) (ci := 12) (v := .ref m5) (C := RX12) (T := TX12) (N := 42) hx hb hts iT_X12 hown hK hP 0 rfl rfl 5 (by decide) (hts _ tw_6_58) (fun _ h9 => h9) rfl dX12_isByte_9 ?_
    refine lv_iload_n hx hb dX12_isByte_12 rfl (lv_at hl 1 rfl) ?_
    refine va_bald hx hb hK hP 1 1 rfl rfl (z_in (by omega) (by omega)) dX12_isByte_13 ?_
    refine lv_topi (fun x_2 ex_2 => ?_)
    refine lv_iload_n hx hb dX12_isByte_14 rfl (lv_at hl 2 rfl) ?_
    refine lv_icmp_lt (tgt := 32) hx hb dX12_isByte_15 (by decide) (fun h_3 => ?_) (fun h_3 => ?_)
    · skip
      have zh_3 : x_2.toInt < p1.toInt := z_lt h_3
      refine lv_iconst (v := 0) hx hb dX12_isByte_32 (by decide) ?_
      obtain ⟨hP9, hD9⟩ := sub2 hP hD (ws' := [(mo, .inr (12, [.int v0, .ref m1, .ref m2, .ref m3, .ref m4, .ref m5, .int v6, .int v7, .int v8, .int v9, .int v10, .long v11, .int v12, .int v13, .int v14, .int v15, .ref m16, .ref m17, .ref m18, .ref m19, .ref m20, .ref m21, .ref m22, .ref m23, .int v24, .ref m25, .ref m26, .ref m27, .ref m28, .ref m29, .int v30, .ref m31, .ref m32, .ref m33, .int v34, .int v35, .int v36, .ref m37, .ref m38, .ref m39, .ref m40, .long v41])), (m5, .inl (k 1, 1000, .inl f5))]) [0, 1] (by decide +kernel) rfl
      exact W.zret (v := 0) hx hb hr (by decide) (fun tZ ht hW => ⟨⟨0, (), rfl, ⟨(show 0 ≤ 0 ∧ 0 ≤ 1 from by omega), (show 0 = isByteOf f5 v6 p0 p1 p2 from by unfold isByteOf; rw [← ex_2]; rw [if_neg (by omega)]), (show (0 = 1 ∧ p0.toInt < v6.toInt) ∨ 0 = 0 from by omega)⟩, by rw [ht]; exact hP9, va_K.moved hW.alike hK, hD9⟩, hS.F ht⟩) hS.2.2 dX12_isByte_33
    · skip
      have zh_3 : p1.toInt ≤ x_2.toInt := z_nlt h_3
      refine lv_aload_n hx hb dX12_isByte_18 rfl (lv_at hl 0 rfl) ?_
      refine va_get (D := D) (ci := 12) (v := .ref m5) (C := RX12) (T := TX12) (N := 42) hx hb hts iT_X12 hown hK hP 0 rfl rfl 5 (by decide) (hts _ tw_6_58) (fun _ h9 => h9) rfl dX12_isByte_19 ?_
      refine lv_iload_n hx hb dX12_isByte_22 rfl (lv_at hl 1 rfl) ?_
      refine va_bald hx hb hK hP 1 1 rfl rfl (z_in (by omega) (by omega)) dX12_isByte_23 ?_
      refine lv_topi (fun x_4 ex_4 => ?_)
      obtain rfl : x_2 = x_4 := ex_2.trans ex_4.symm
      refine lv_iload_n hx hb dX12_isByte_24 rfl (lv_at hl 3 rfl) ?_
      refine lv_icmp_gt (tgt := 32) hx hb dX12_isByte_25 (by decide) (fun h_5 => ?_) (fun h_5 => ?_)
      · skip
        have zh_5 : p2.toInt < x_2.toInt := z_lt h_5
        refine lv_iconst (v := 0) hx hb dX12_isByte_32 (by decide) ?_
        obtain ⟨hP9, hD9⟩ := sub2 hP hD (ws' := [(mo, .inr (12, [.int v0, .ref m1, .ref m2, .ref m3, .ref m4, .ref m5, .int v6, .int v7, .int v8, .int v9, .int v10, .long v11, .int v12, .int v13, .int v14, .int v15, .ref m16, .ref m17, .ref m18, .ref m19, .ref m20, .ref m21, .ref m22, .ref m23, .int v24, .ref m25, .ref m26, .ref m27, .ref m28, .ref m29, .int v30, .ref m31, .ref m32, .ref m33, .int v34, .int v35, .int v36, .ref m37, .ref m38, .ref m39, .ref m40, .long v41])), (m5, .inl (k 1, 1000, .inl f5))]) [0, 1] (by decide +kernel) rfl
        exact W.zret (v := 0) hx hb hr (by decide) (fun tZ ht hW => ⟨⟨0, (), rfl, ⟨(show 0 ≤ 0 ∧ 0 ≤ 1 from by omega), (show 0 = isByteOf f5 v6 p0 p1 p2 from by unfold isByteOf; rw [← ex_2]; rw [if_neg (by omega)]), (show (0 = 1 ∧ p0.toInt < v6.toInt) ∨ 0 = 0 from by omega)⟩, by rw [ht]; exact hP9, va_K.moved hW.alike hK, hD9⟩, hS.F ht⟩) hS.2.2 dX12_isByte_33
      · skip
        have zh_5 : x_2.toInt ≤ p2.toInt := z_nlt h_5
        refine lv_iconst (v := 1) hx hb dX12_isByte_28 (by decide) ?_
        refine lv_goto (tgt := 33) hx hb dX12_isByte_29 (by decide) ?_
        obtain ⟨hP9, hD9⟩ := sub2 hP hD (ws' := [(mo, .inr (12, [.int v0, .ref m1, .ref m2, .ref m3, .ref m4, .ref m5, .int v6, .int v7, .int v8, .int v9, .int v10, .long v11, .int v12, .int v13, .int v14, .int v15, .ref m16, .ref m17, .ref m18, .ref m19, .ref m20, .ref m21, .ref m22, .ref m23, .int v24, .ref m25, .ref m26, .ref m27, .ref m28, .ref m29, .int v30, .ref m31, .ref m32, .ref m33, .int v34, .int v35, .int v36, .ref m37, .ref m38, .ref m39, .ref m40, .long v41])), (m5, .inl (k 1, 1000, .inl f5))]) [0, 1] (by decide +kernel) rfl
        exact W.zret (v := 1) hx hb hr (by decide) (fun tZ ht hW => ⟨⟨1, (), rfl, ⟨(show 0 ≤ 1 ∧ 1 ≤ 1 from by omega), (show 1 = isByteOf f5 v6 p0 p1 p2 from by unfold isByteOf; rw [← ex_2]; rw [if_pos (by omega)]), (show (1 = 1 ∧ p0.toInt < v6.toInt) ∨ 1 = 0 from by omega)⟩, by rw [ht]; exact hP9, va_K.moved hW.alike hK, hD9⟩, hS.F ht⟩) hS.2.2 dX12_isByte_33
set_option maxHeartbeats 4000000 in
set_option maxRecDepth 100000 in
theorem c_X12_next (l : Launch) (D : va_G) (k : Nat → ClassId) (mo : Nat) (v0 : Int32) (m1 : Nat) (m2 : Nat) (m3 : Nat) (m4 : Nat) (m5 : Nat) (v6 : Int32) (v7 : Int32) (v8 : Int32) (v9 : Int32) (v10 : Int32) (v11 : Int64) (v12 : Int32) (v13 : Int32) (v14 : Int32) (v15 : Int32) (m16 : Nat) (m17 : Nat) (m18 : Nat) (m19 : Nat) (m20 : Nat) (m21 : Nat) (m22 : Nat) (m23 : Nat) (v24 : Int32) (m25 : Nat) (m26 : Nat) (m27 : Nat) (m28 : Nat) (m29 : Nat) (v30 : Int32) (m31 : Nat) (m32 : Nat) (m33 : Nat) (v34 : Int32) (v35 : Int32) (v36 : Int32) (m37 : Nat) (m38 : Nat) (m39 : Nat) (m40 : Nat) (v41 : Int64) (f5 : Nat → Int32) (sz : Nat) (h_v6 : 0 ≤ v6.toInt ∧ v6.toInt ≤ 1000) (h_v7 : 0 ≤ v7.toInt ∧ v7.toInt ≤ 1000) (h_v24 : 0 ≤ v24.toInt ∧ v24.toInt ≤ 1023) (hat : v7.toInt ≤ v6.toInt) : Met l yX12_next (ww yX12_next cX12_next 2 none) ({ frames := 1, cells := 0, slots := 0, locals := 23 }) (Pre0 D k [(mo, .inr (12, [.int v0, .ref m1, .ref m2, .ref m3, .ref m4, .ref m5, .int v6, .int v7, .int v8, .int v9, .int v10, .long v11, .int v12, .int v13, .int v14, .int v15, .ref m16, .ref m17, .ref m18, .ref m19, .ref m20, .ref m21, .ref m22, .ref m23, .int v24, .ref m25, .ref m26, .ref m27, .ref m28, .ref m29, .int v30, .ref m31, .ref m32, .ref m33, .int v34, .int v35, .int v36, .ref m37, .ref m38, .ref m39, .ref m40, .long v41])), (m5, .inl (k 1, 1000, .inl f5))] sz [.ref mo]) (va_Qv (fun (u : Int32 × Int32 × Int32 × Int32 × Int64) => match u with | (v7z, v8z, v9z, v10z, v11z) => (0 ≤ v7z.toInt ∧ v7z.toInt ≤ 1000) ∧ (0 ≤ v8z.toInt ∧ v8z.toInt ≤ 4) ∧ (0 ≤ v9z.toInt ∧ v9z.toInt ≤ 1000) ∧ (v7.toInt ≤ v7z.toInt ∧ v7z.toInt ≤ v6.toInt) ∧ (v8z.toInt = 0 ∨ v7.toInt < v7z.toInt)) (fun (u : Int32 × Int32 × Int32 × Int32 × Int64) tZ => match u with | (v7z, v8z, v9z, v10z, v11z) => Bw D k (va_A [(mo, .inr (12, [.int v0, .ref m1, .ref m2, .ref m3, .ref m4, .ref m5, .int v6, .int v7, .int v8, .int v9, .int v10, .long v11, .int v12, .int v13, .int v14, .int v15, .ref m16, .ref m17, .ref m18, .ref m19, .ref m20, .ref m21, .ref m22, .ref m23, .int v24, .ref m25, .ref m26, .ref m27, .ref m28, .ref m29, .int v30, .ref m31, .ref m32, .ref m33, .int v34, .int v35, .int v36, .ref m37, .ref m38, .ref m39, .ref m40, .long v41])), (m5, .inl (k 1, 1000, .inl f5))] sz) [(mo, .inr (12, [.int v0, .ref m1, .ref m2, .ref m3, .ref m4, .ref m5, .int v6, .int v7z, .int v8z, .int v9z, .int v10z, .long v11z, .int v12, .int v13, .int v14, .int v15, .ref m16, .ref m17, .ref m18, .ref m19, .ref m20, .ref m21, .ref m22, .ref m23, .int v24, .ref m25, .ref m26, .ref m27, .ref m28, .ref m29, .int v30, .ref m31, .ref m32, .ref m33, .int v34, .int v35, .int v36, .ref m37, .ref m38, .ref m39, .ref m40, .long v41])), (m5, .inl (k 1, 1000, .inl f5))] tZ) (va_A [(mo, .inr (12, [.int v0, .ref m1, .ref m2, .ref m3, .ref m4, .ref m5, .int v6, .int v7, .int v8, .int v9, .int v10, .long v11, .int v12, .int v13, .int v14, .int v15, .ref m16, .ref m17, .ref m18, .ref m19, .ref m20, .ref m21, .ref m22, .ref m23, .int v24, .ref m25, .ref m26, .ref m27, .ref m28, .ref m29, .int v30, .ref m31, .ref m32, .ref m33, .int v34, .int v35, .int v36, .ref m37, .ref m38, .ref m39, .ref m40, .long v41])), (m5, .inl (k 1, 1000, .inl f5))] sz)) 0 0 (va_A [(mo, .inr (12, [.int v0, .ref m1, .ref m2, .ref m3, .ref m4, .ref m5, .int v6, .int v7, .int v8, .int v9, .int v10, .long v11, .int v12, .int v13, .int v14, .int v15, .ref m16, .ref m17, .ref m18, .ref m19, .ref m20, .ref m21, .ref m22, .ref m23, .int v24, .ref m25, .ref m26, .ref m27, .ref m28, .ref m29, .int v30, .ref m31, .ref m32, .ref m33, .int v34, .int v35, .int v36, .ref m37, .ref m38, .ref m39, .ref m40, .long v41])), (m5, .inl (k 1, 1000, .inl f5))] sz) := by
  refine Met.ofW (cc := cX12_next) (maxL := 2) (ret := none) (by decide +kernel) rfl ?_
  intro p e s m args below meth c s₁ B hml hv
  obtain ⟨rfl, hsz, hP, hK, hD0, hN⟩ := hv
  have hx := B.exec
  have hb := B.bytes
  have hr := B.returns
  have hts : ∀ w ∈ TT, w.before _ s = true := fun w h => atoms_spec (ws := ww yX12_next cX12_next 2 none) B.pre w (List.mem_cons_of_mem _ h)
  have hown : s.vm.findClass RX12 = some m.cls := findClass_of_methodNamed B.named
  have hlocks := B.notSynchronized
  subst hsz
  have hD := hD0.self (sz := s.heap.size)
  generalize hAe : va_A [(mo, .inr (12, [.int v0, .ref m1, .ref m2, .ref m3, .ref m4, .ref m5, .int v6, .int v7, .int v8, .int v9, .int v10, .long v11, .int v12, .int v13, .int v14, .int v15, .ref m16, .ref m17, .ref m18, .ref m19, .ref m20, .ref m21, .ref m22, .ref m23, .int v24, .ref m25, .ref m26, .ref m27, .ref m28, .ref m29, .int v30, .ref m31, .ref m32, .ref m33, .int v34, .int v35, .int v36, .ref m37, .ref m38, .ref m39, .ref m40, .long v41])), (m5, .inl (k 1, 1000, .inl f5))] s.heap.size = A at hD ⊢
  have hA : ∀ q : Nat, s.heap.size ≤ q → A q := fun q h => by rw [← hAe]; exact Or.inr h
  have hS : va_S A s.heap s.heap [] := va_S.rf
  have hl := lv_entry ([.ref mo]) (n := 2) (Nat.le_of_ble_eq_true rfl)
  rw [lg_entry_eq]
  generalize (lg_sl ([.ref mo]) ++ List.replicate (2 - (lg_sl ([.ref mo])).length) Slot.unset).toArray = ls at hl ⊢
  have hl : lv_has ls 2 [(0, .ref mo)] := hl
  refine lv_aload_n hx hb dX12_next_0 rfl (lv_at hl 0 rfl) ?_
  refine lv_aload_n hx hb dX12_next_1 rfl (lv_at hl 0 rfl) ?_
  refine va_get (D := D) (ci := 12) (v := .int v7) (C := RX12) (T := TX12) (N := 42) hx hb hts iT_X12 hown hK hP 0 rfl rfl 7 (by decide) (hts _ tw_6_60) (fun _ h9 => h9) rfl dX12_next_2 ?_
  refine lv_bipush (v := 32) hx hb dX12_next_5 (by decide) ?_
  refine lv_bipush (v := 32) hx hb dX12_next_7 (by decide) ?_
  obtain ⟨hPc, hDc, hFc⟩ := sub3 hP hD hS hA (ws' := [(mo, .inr (12, [.int v0, .ref m1, .ref m2, .ref m3, .ref m4, .ref m5, .int v6, .int v7, .int v8, .int v9, .int v10, .long v11, .int v12, .int v13, .int v14, .int v15, .ref m16, .ref m17, .ref m18, .ref m19, .ref m20, .ref m21, .ref m22, .ref m23, .int v24, .ref m25, .ref m26, .ref m27, .ref m28, .ref m29, .int v30, .ref m31, .ref m32, .ref m33, .int v34, .int v35, .int v36, .ref m37, .ref m38, .ref m39, .ref m40, .long v41])), (m5, .inl (k 1, 1000, .inl f5))]) [0, 1] (by decide +kernel) rfl
  refine va_calli (va_runV (C := RX12) (As := [.int v7, .int 32, .int 32]) (rest := []) ⟨hx, hb, hml, hown, hts⟩ (c_X12_isByte l D k mo v7 32 32 v0 m1 m2 m3 m4 m5 v6 v7 v8 v9 v10 v11 v12 v13 v14 v15 m16 m17 m18 m19 m20 m21 m22 m23 v24 m25 m26 m27 m28 m29 v30 m31 m32 m33 v34 v35 v36 m37 m38 m39 m40 v41 f5 s.heap.size (show 0 ≤ v7.toInt ∧ v7.toInt ≤ 1000 from by omega) (show 0 ≤ v6.toInt ∧ v6.toInt ≤ 1000 from by omega) (show 0 ≤ v24.toInt ∧ v24.toInt ≤ 1023 from by omega)) (cwV 3 hts (gV tw_6_238 tw_7_0 tw_p_40 tw_1_13 tw_7_1) rfl rfl rfl hdV_X12_isByte ⟨Nat.le_of_ble_eq_true rfl, Nat.le_of_ble_eq_true rfl⟩) (cz_V hK hPc hDc hN (ci := 12) (q0 := 0) rfl rfl [.int v7, .int 32, .int 32]) rfl rfl hl.1 rfl (lv_room (Nat.le_of_ble_eq_true rfl)) dX12_next_9 ⟨Nat.le_of_ble_eq_true rfl, Nat.le_of_ble_eq_true rfl⟩) hS (fun q _ h => hFc q h) hFc (fun r_1 uZ tZ H1 locs ht hvm hw hB hz1 hk1 hS => ?_)
  obtain ⟨hP1, hK1, hD1⟩ := hB
  rw [ht] at hP1
  obtain ⟨hP, hD⟩ := va_join (wr := []) (w1 := [(mo, .inr (12, [.int v0, .ref m1, .ref m2, .ref m3, .ref m4, .ref m5, .int v6, .int v7, .int v8, .int v9, .int v10, .long v11, .int v12, .int v13, .int v14, .int v15, .ref m16, .ref m17, .ref m18, .ref m19, .ref m20, .ref m21, .ref m22, .ref m23, .int v24, .ref m25, .ref m26, .ref m27, .ref m28, .ref m29, .int v30, .ref m31, .ref m32, .ref m33, .int v34, .int v35, .int v36, .ref m37, .ref m38, .ref m39, .ref m40, .long v41])), (m5, .inl (k 1, 1000, .inl f5))]) hP hD [0, 1] [] rfl rfl (by decide +kernel) (by decide +kernel) hk1 hFc hP1 hD1
  clear hK1 hP1 hD1 hPc hDc hFc
  clear hk1 hz1 ht hvm
  have hP : va_P D vwCl [(mo, .inr (12, [.int v0, .ref m1, .ref m2, .ref m3, .ref m4, .ref m5, .int v6, .int v7, .int v8, .int v9, .int v10, .long v11, .int v12, .int v13, .int v14, .int v15, .ref m16, .ref m17, .ref m18, .ref m19, .ref m20, .ref m21, .ref m22, .ref m23, .int v24, .ref m25, .ref m26, .ref m27, .ref m28, .ref m29, .int v30, .ref m31, .ref m32, .ref m33, .int v34, .int v35, .int v36, .ref m37, .ref m38, .ref m39, .ref m40, .long v41])), (m5, .inl (k 1, 1000, .inl f5))] H1 := hP
  have hD : va_D A [(mo, .inr (12, [.int v0, .ref m1, .ref m2, .ref m3, .ref m4, .ref m5, .int v6, .int v7, .int v8, .int v9, .int v10, .long v11, .int v12, .int v13, .int v14, .int v15, .ref m16, .ref m17, .ref m18, .ref m19, .ref m20, .ref m21, .ref m22, .ref m23, .int v24, .ref m25, .ref m26, .ref m27, .ref m28, .ref m29, .int v30, .ref m31, .ref m32, .ref m33, .int v34, .int v35, .int v36, .ref m37, .ref m38, .ref m39, .ref m40, .long v41])), (m5, .inl (k 1, 1000, .inl f5))] := hD
  generalize H1 = H at hP hS ⊢
  have hw_2 : (0 ≤ r_1.toInt ∧ r_1.toInt ≤ 1) ∧ (r_1 = isByteOf f5 v6 v7 32 32) ∧ ((r_1.toInt = 1 ∧ v7.toInt < v6.toInt) ∨ r_1.toInt = 0) := hw
  obtain ⟨hw_3, hw_4, hw_5⟩ := hw_2
  clear hw
  refine lv_if_ne (tgt := 30) hx hb dX12_next_12 (by decide) (fun h_6 => ?_) (fun h_6 => ?_)
  · skip
    have zh_6 : ¬ r_1.toInt = 0 := z_ne h_6
    refine lv_aload_n hx hb dX12_next_30 rfl (lv_at hl 0 rfl) ?_
    refine lv_dup hx hb dX12_next_31 rfl ?_
    refine va_get (D := D) (ci := 12) (v := .int v7) (C := RX12) (T := TX12) (N := 42) hx hb hts iT_X12 hown hK hP 0 rfl rfl 7 (by decide) (hts _ tw_6_60) (fun _ h9 => h9) rfl dX12_next_32 ?_
    refine lv_iconst (v := 1) hx hb dX12_next_35 (by decide) ?_
    refine lv_iadd hx hb dX12_next_36 ?_
    refine lv_topi (fun x_7 ex_7 => ?_)
    have zx_7 : x_7.toInt = v7.toInt + 1 := by rw [ex_7]; exact z_add rfl rfl (by omega) (by omega)
    refine va_put (D := D) (ci := 12) (v := .int x_7) (ty := tyX12 7) (C := RX12) (T := TX12) (N := 42) hx hb hts iT_X12 tyX12 tyX12_ok nmX12 hown hK hP hD hS 0 rfl rfl 7 (by decide) (hts _ tw_6_60) (fun _ h9 => h9) rfl (tyX12_ok 7 (by decide)) rfl rfl (Nat.le_of_ble_eq_true rfl) dX12_next_37 (fun H locs hP hD hS => ?_)
    have hP : va_P D vwCl [(mo, .inr (12, [.int v0, .ref m1, .ref m2, .ref m3, .ref m4, .ref m5, .int v6, .int x_7, .int v8, .int v9, .int v10, .long v11, .int v12, .int v13, .int v14, .int v15, .ref m16, .ref m17, .ref m18, .ref m19, .ref m20, .ref m21, .ref m22, .ref m23, .int v24, .ref m25, .ref m26, .ref m27, .ref m28, .ref m29, .int v30, .ref m31, .ref m32, .ref m33, .int v34, .int v35, .int v36, .ref m37, .ref m38, .ref m39, .ref m40, .long v41])), (m5, .inl (k 1, 1000, .inl f5))] H := hP
    have hD : va_D A [(mo, .inr (12, [.int v0, .ref m1, .ref m2, .ref m3, .ref m4, .ref m5, .int v6, .int x_7, .int v8, .int v9, .int v10, .long v11, .int v12, .int v13, .int v14, .int v15, .ref m16, .ref m17, .ref m18, .ref m19, .ref m20, .ref m21, .ref m22, .ref m23, .int v24, .ref m25, .ref m26, .ref m27, .ref m28, .ref m29, .int v30, .ref m31, .ref m32, .ref m33, .int v34, .int v35, .int v36, .ref m37, .ref m38, .ref m39, .ref m40, .long v41])), (m5, .inl (k 1, 1000, .inl f5))] := hD
    refine lv_goto (tgt := 0) hx hb dX12_next_40 (by decide) ?_
    refine loop_r (Wg := fun H locs ls => W p l e _ s m _ below meth c H locs _ _ _ (F0 m 0 ls [])) (fun n9 H locs ls => ∃ (L0f0x7 : Int32), n9 = (1000 - L0f0x7.toInt).toNat ∧ (1 ≤ L0f0x7.toInt ∧ L0f0x7.toInt ≤ 1000) ∧ (L0f0x7.toInt ≤ v6.toInt) ∧ (v7.toInt ≤ L0f0x7.toInt) ∧ va_P D vwCl [(mo, .inr (12, [.int v0, .ref m1, .ref m2, .ref m3, .ref m4, .ref m5, .int v6, .int L0f0x7, .int v8, .int v9, .int v10, .long v11, .int v12, .int v13, .int v14, .int v15, .ref m16, .ref m17, .ref m18, .ref m19, .ref m20, .ref m21, .ref m22, .ref m23, .int v24, .ref m25, .ref m26, .ref m27, .ref m28, .ref m29, .int v30, .ref m31, .ref m32, .ref m33, .int v34, .int v35, .int v36, .ref m37, .ref m38, .ref m39, .ref m40, .long v41])), (m5, .inl (k 1, 1000, .inl f5))] H ∧ va_D A [(mo, .inr (12, [.int v0, .ref m1, .ref m2, .ref m3, .ref m4, .ref m5, .int v6, .int L0f0x7, .int v8, .int v9, .int v10, .long v11, .int v12, .int v13, .int v14, .int v15, .ref m16, .ref m17, .ref m18, .ref m19, .ref m20, .ref m21, .ref m22, .ref m23, .int v24, .ref m25, .ref m26, .ref m27, .ref m28, .ref m29, .int v30, .ref m31, .ref m32, .ref m33, .int v34, .int v35, .int v36, .ref m37, .ref m38, .ref m39, .ref m40, .long v41])), (m5, .inl (k 1, 1000, .inl f5))] ∧ va_S A s.heap H locs ∧ lv_has ls 2 [(0, .ref mo)]) (fun n9 H locs ls hI ih_8 => ?_) _ _ _ _ ⟨x_7, rfl, (show 1 ≤ x_7.toInt ∧ x_7.toInt ≤ 1000 from by omega), (show x_7.toInt ≤ v6.toInt from by omega), (show v7.toInt ≤ x_7.toInt from by omega), hP.sub (ws' := [(mo, .inr (12, [.int v0, .ref m1, .ref m2, .ref m3, .ref m4, .ref m5, .int v6, .int x_7, .int v8, .int v9, .int v10, .long v11, .int v12, .int v13, .int v14, .int v15, .ref m16, .ref m17, .ref m18, .ref m19, .ref m20, .ref m21, .ref m22, .ref m23, .int v24, .ref m25, .ref m26, .ref m27, .ref m28, .ref m29, .int v30, .ref m31, .ref m32, .ref m33, .int v34, .int v35, .int v36, .ref m37, .ref m38, .ref m39, .ref m40, .long v41])), (m5, .inl (k 1, 1000, .inl f5))]) [0, 1] rfl, hD.sub (ws' := [(mo, .inr (12, [.int v0, .ref m1, .ref m2, .ref m3, .ref m4, .ref m5, .int v6, .int x_7, .int v8, .int v9, .int v10, .long v11, .int v12, .int v13, .int v14, .int v15, .ref m16, .ref m17, .ref m18, .ref m19, .ref m20, .ref m21, .ref m22, .ref m23, .int v24, .ref m25, .ref m26, .ref m27, .ref m28, .ref m29, .int v30, .ref m31, .ref m32, .ref m33, .int v34, .int v35, .int v36, .ref m37, .ref m38, .ref m39, .ref m40, .long v41])), (m5, .inl (k 1, 1000, .inl f5))]) [0, 1] (by decide +kernel) rfl, hS, lv_sub hl [0] rfl⟩
    clear hP hD hS hl
    obtain ⟨L0f0x7, en_9, zL0f0x7, hi0x0, hi0x1, hP, hD, hS, hl⟩ := hI
    refine lv_aload_n hx hb dX12_next_0 rfl (lv_at hl 0 rfl) ?_
    refine lv_aload_n hx hb dX12_next_1 rfl (lv_at hl 0 rfl) ?_
    refine va_get (D := D) (ci := 12) (v := .int L0f0x7) (C := RX12) (T := TX12) (N := 42) hx hb hts iT_X12 hown hK hP 0 rfl rfl 7 (by decide) (hts _ tw_6_60) (fun _ h9 => h9) rfl dX12_next_2 ?_
    refine lv_bipush (v := 32) hx hb dX12_next_5 (by decide) ?_
    refine lv_bipush (v := 32) hx hb dX12_next_7 (by decide) ?_
    obtain ⟨hPc, hDc, hFc⟩ := sub3 hP hD hS hA (ws' := [(mo, .inr (12, [.int v0, .ref m1, .ref m2, .ref m3, .ref m4, .ref m5, .int v6, .int L0f0x7, .int v8, .int v9, .int v10, .long v11, .int v12, .int v13, .int v14, .int v15, .ref m16, .ref m17, .ref m18, .ref m19, .ref m20, .ref m21, .ref m22, .ref m23, .int v24, .ref m25, .ref m26, .ref m27, .ref m28, .ref m29, .int v30, .ref m31, .ref m32, .ref m33, .int v34, .int v35, .int v36, .ref m37, .ref m38, .ref m39, .ref m40, .long v41])), (m5, .inl (k 1, 1000, .inl f5))]) [0, 1] (by decide +kernel) rfl
    refine va_calli (va_runV (C := RX12) (As := [.int L0f0x7, .int 32, .int 32]) (rest := []) ⟨hx, hb, hml, hown, hts⟩ (c_X12_isByte l D k mo L0f0x7 32 32 v0 m1 m2 m3 m4 m5 v6 L0f0x7 v8 v9 v10 v11 v12 v13 v14 v15 m16 m17 m18 m19 m20 m21 m22 m23 v24 m25 m26 m27 m28 m29 v30 m31 m32 m33 v34 v35 v36 m37 m38 m39 m40 v41 f5 H.size (show 0 ≤ L0f0x7.toInt ∧ L0f0x7.toInt ≤ 1000 from by omega) (show 0 ≤ v6.toInt ∧ v6.toInt ≤ 1000 from by omega) (show 0 ≤ v24.toInt ∧ v24.toInt ≤ 1023 from by omega)) (cwV 3 hts (gV tw_6_238 tw_7_0 tw_p_40 tw_1_13 tw_7_1) rfl rfl rfl hdV_X12_isByte ⟨Nat.le_of_ble_eq_true rfl, Nat.le_of_ble_eq_true rfl⟩) (cz_V hK hPc hDc hN (ci := 12) (q0 := 0) rfl rfl [.int L0f0x7, .int 32, .int 32]) rfl rfl hl.1 rfl (lv_room (Nat.le_of_ble_eq_true rfl)) dX12_next_9 ⟨Nat.le_of_ble_eq_true rfl, Nat.le_of_ble_eq_true rfl⟩) hS (fun q _ h => hFc q h) hFc (fun r_10 uZ tZ H1 locs ht hvm hw hB hz1 hk1 hS => ?_)
    obtain ⟨hP1, hK1, hD1⟩ := hB
    rw [ht] at hP1
    obtain ⟨hP, hD⟩ := va_join (wr := []) (w1 := [(mo, .inr (12, [.int v0, .ref m1, .ref m2, .ref m3, .ref m4, .ref m5, .int v6, .int L0f0x7, .int v8, .int v9, .int v10, .long v11, .int v12, .int v13, .int v14, .int v15, .ref m16, .ref m17, .ref m18, .ref m19, .ref m20, .ref m21, .ref m22, .ref m23, .int v24, .ref m25, .ref m26, .ref m27, .ref m28, .ref m29, .int v30, .ref m31, .ref m32, .ref m33, .int v34, .int v35, .int v36, .ref m37, .ref m38, .ref m39, .ref m40, .long v41])), (m5, .inl (k 1, 1000, .inl f5))]) hP hD [0, 1] [] rfl rfl (by decide +kernel) (by decide +kernel) hk1 hFc hP1 hD1
    clear hK1 hP1 hD1 hPc hDc hFc
    clear hk1 hz1 ht hvm
    have hP : va_P D vwCl [(mo, .inr (12, [.int v0, .ref m1, .ref m2, .ref m3, .ref m4, .ref m5, .int v6, .int L0f0x7, .int v8, .int v9, .int v10, .long v11, .int v12, .int v13, .int v14, .int v15, .ref m16, .ref m17, .ref m18, .ref m19, .ref m20, .ref m21, .ref m22, .ref m23, .int v24, .ref m25, .ref m26, .ref m27, .ref m28, .ref m29, .int v30, .ref m31, .ref m32, .ref m33, .int v34, .int v35, .int v36, .ref m37, .ref m38, .ref m39, .ref m40, .long v41])), (m5, .inl (k 1, 1000, .inl f5))] H1 := hP
    have hD : va_D A [(mo, .inr (12, [.int v0, .ref m1, .ref m2, .ref m3, .ref m4, .ref m5, .int v6, .int L0f0x7, .int v8, .int v9, .int v10, .long v11, .int v12, .int v13, .int v14, .int v15, .ref m16, .ref m17, .ref m18, .ref m19, .ref m20, .ref m21, .ref m22, .ref m23, .int v24, .ref m25, .ref m26, .ref m27, .ref m28, .ref m29, .int v30, .ref m31, .ref m32, .ref m33, .int v34, .int v35, .int v36, .ref m37, .ref m38, .ref m39, .ref m40, .long v41])), (m5, .inl (k 1, 1000, .inl f5))] := hD
    generalize H1 = H at hP hS ⊢
    have hw_11 : (0 ≤ r_10.toInt ∧ r_10.toInt ≤ 1) ∧ (r_10 = isByteOf f5 v6 L0f0x7 32 32) ∧ ((r_10.toInt = 1 ∧ L0f0x7.toInt < v6.toInt) ∨ r_10.toInt = 0) := hw
    obtain ⟨hw_12, hw_13, hw_14⟩ := hw_11
    clear hw
    refine lv_if_ne (tgt := 30) hx hb dX12_next_12 (by decide) (fun h_15 => ?_) (fun h_15 => ?_)
    · skip
      have zh_15 : ¬ r_10.toInt = 0 := z_ne h_15
      refine lv_aload_n hx hb dX12_next_30 rfl (lv_at hl 0 rfl) ?_
      refine lv_dup hx hb dX12_next_31 rfl ?_
      refine va_get (D := D) (ci := 12) (v := .int L0f0x7) (C := RX12) (T := TX12) (N := 42) hx hb hts iT_X12 hown hK hP 0 rfl rfl 7 (by decide) (hts _ tw_6_60) (fun _ h9 => h9) rfl dX12_next_32 ?_
      refine lv_iconst (v := 1) hx hb dX12_next_35 (by decide) ?_
      refine lv_iadd hx hb dX12_next_36 ?_
      refine lv_topi (fun x_16 ex_16 => ?_)
      have zx_16 : x_16.toInt = L0f0x7.toInt + 1 := by rw [ex_16]; exact z_add rfl rfl (by omega) (by omega)
      refine va_put (D := D) (ci := 12) (v := .int x_16) (ty := tyX12 7) (C := RX12) (T := TX12) (N := 42) hx hb hts iT_X12 tyX12 tyX12_ok nmX12 hown hK hP hD hS 0 rfl rfl 7 (by decide) (hts _ tw_6_60) (fun _ h9 => h9) rfl (tyX12_ok 7 (by decide)) rfl rfl (Nat.le_of_ble_eq_true rfl) dX12_next_37 (fun H locs hP hD hS => ?_)
      have hP : va_P D vwCl [(mo, .inr (12, [.int v0, .ref m1, .ref m2, .ref m3, .ref m4, .ref m5, .int v6, .int x_16, .int v8, .int v9, .int v10, .long v11, .int v12, .int v13, .int v14, .int v15, .ref m16, .ref m17, .ref m18, .ref m19, .ref m20, .ref m21, .ref m22, .ref m23, .int v24, .ref m25, .ref m26, .ref m27, .ref m28, .ref m29, .int v30, .ref m31, .ref m32, .ref m33, .int v34, .int v35, .int v36, .ref m37, .ref m38, .ref m39, .ref m40, .long v41])), (m5, .inl (k 1, 1000, .inl f5))] H := hP
      have hD : va_D A [(mo, .inr (12, [.int v0, .ref m1, .ref m2, .ref m3, .ref m4, .ref m5, .int v6, .int x_16, .int v8, .int v9, .int v10, .long v11, .int v12, .int v13, .int v14, .int v15, .ref m16, .ref m17, .ref m18, .ref m19, .ref m20, .ref m21, .ref m22, .ref m23, .int v24, .ref m25, .ref m26, .ref m27, .ref m28, .ref m29, .int v30, .ref m31, .ref m32, .ref m33, .int v34, .int v35, .int v36, .ref m37, .ref m38, .ref m39, .ref m40, .long v41])), (m5, .inl (k 1, 1000, .inl f5))] := hD
      refine lv_goto (tgt := 0) hx hb dX12_next_40 (by decide) ?_
      exact ih_8 _ _ _ _ (by omega) ⟨x_16, rfl, (show 1 ≤ x_16.toInt ∧ x_16.toInt ≤ 1000 from by omega), (show x_16.toInt ≤ v6.toInt from by omega), (show v7.toInt ≤ x_16.toInt from by omega), hP.sub (ws' := [(mo, .inr (12, [.int v0, .ref m1, .ref m2, .ref m3, .ref m4, .ref m5, .int v6, .int x_16, .int v8, .int v9, .int v10, .long v11, .int v12, .int v13, .int v14, .int v15, .ref m16, .ref m17, .ref m18, .ref m19, .ref m20, .ref m21, .ref m22, .ref m23, .int v24, .ref m25, .ref m26, .ref m27, .ref m28, .ref m29, .int v30, .ref m31, .ref m32, .ref m33, .int v34, .int v35, .int v36, .ref m37, .ref m38, .ref m39, .ref m40, .long v41])), (m5, .inl (k 1, 1000, .inl f5))]) [0, 1] rfl, hD.sub (ws' := [(mo, .inr (12, [.int v0, .ref m1, .ref m2, .ref m3, .ref m4, .ref m5, .int v6, .int x_16, .int v8, .int v9, .int v10, .long v11, .int v12, .int v13, .int v14, .int v15, .ref m16, .ref m17, .ref m18, .ref m19, .ref m20, .ref m21, .ref m22, .ref m23, .int v24, .ref m25, .ref m26, .ref m27, .ref m28, .ref m29, .int v30, .ref m31, .ref m32, .ref m33, .int v34, .int v35, .int v36, .ref m37, .ref m38, .ref m39, .ref m40, .long v41])), (m5, .inl (k 1, 1000, .inl f5))]) [0, 1] (by decide +kernel) rfl, hS, lv_sub hl [0] rfl⟩
    · skip
      have zh_15 : r_10.toInt = 0 := z_eq h_15
      refine lv_aload_n hx hb dX12_next_15 rfl (lv_at hl 0 rfl) ?_
      refine lv_aload_n hx hb dX12_next_16 rfl (lv_at hl 0 rfl) ?_
      refine va_get (D := D) (ci := 12) (v := .int L0f0x7) (C := RX12) (T := TX12) (N := 42) hx hb hts iT_X12 hown hK hP 0 rfl rfl 7 (by decide) (hts _ tw_6_60) (fun _ h9 => h9) rfl dX12_next_17 ?_
      refine lv_bipush (v := 10) hx hb dX12_next_20 (by decide) ?_
      refine lv_bipush (v := 10) hx hb dX12_next_22 (by decide) ?_
      obtain ⟨hPc, hDc, hFc⟩ := sub3 hP hD hS hA (ws' := [(mo, .inr (12, [.int v0, .ref m1, .ref m2, .ref m3, .ref m4, .ref m5, .int v6, .int L0f0x7, .int v8, .int v9, .int v10, .long v11, .int v12, .int v13, .int v14, .int v15, .ref m16, .ref m17, .ref m18, .ref m19, .ref m20, .ref m21, .ref m22, .ref m23, .int v24, .ref m25, .ref m26, .ref m27, .ref m28, .ref m29, .int v30, .ref m31, .ref m32, .ref m33, .int v34, .int v35, .int v36, .ref m37, .ref m38, .ref m39, .ref m40, .long v41])), (m5, .inl (k 1, 1000, .inl f5))]) [0, 1] (by decide +kernel) rfl
      refine va_calli (va_runV (C := RX12) (As := [.int L0f0x7, .int 10, .int 10]) (rest := []) ⟨hx, hb, hml, hown, hts⟩ (c_X12_isByte l D k mo L0f0x7 10 10 v0 m1 m2 m3 m4 m5 v6 L0f0x7 v8 v9 v10 v11 v12 v13 v14 v15 m16 m17 m18 m19 m20 m21 m22 m23 v24 m25 m26 m27 m28 m29 v30 m31 m32 m33 v34 v35 v36 m37 m38 m39 m40 v41 f5 H.size (show 0 ≤ L0f0x7.toInt ∧ L0f0x7.toInt ≤ 1000 from by omega) (show 0 ≤ v6.toInt ∧ v6.toInt ≤ 1000 from by omega) (show 0 ≤ v24.toInt ∧ v24.toInt ≤ 1023 from by omega)) (cwV 3 hts (gV tw_6_238 tw_7_0 tw_p_40 tw_1_13 tw_7_1) rfl rfl rfl hdV_X12_isByte ⟨Nat.le_of_ble_eq_true rfl, Nat.le_of_ble_eq_true rfl⟩) (cz_V hK hPc hDc hN (ci := 12) (q0 := 0) rfl rfl [.int L0f0x7, .int 10, .int 10]) rfl rfl hl.1 rfl (lv_room (Nat.le_of_ble_eq_true rfl)) dX12_next_24 ⟨Nat.le_of_ble_eq_true rfl, Nat.le_of_ble_eq_true rfl⟩) hS (fun q _ h => hFc q h) hFc (fun r_17 uZ tZ H1 locs ht hvm hw hB hz1 hk1 hS => ?_)
      obtain ⟨hP1, hK1, hD1⟩ := hB
      rw [ht] at hP1
      obtain ⟨hP, hD⟩ := va_join (wr := []) (w1 := [(mo, .inr (12, [.int v0, .ref m1, .ref m2, .ref m3, .ref m4, .ref m5, .int v6, .int L0f0x7, .int v8, .int v9, .int v10, .long v11, .int v12, .int v13, .int v14, .int v15, .ref m16, .ref m17, .ref m18, .ref m19, .ref m20, .ref m21, .ref m22, .ref m23, .int v24, .ref m25, .ref m26, .ref m27, .ref m28, .ref m29, .int v30, .ref m31, .ref m32, .ref m33, .int v34, .int v35, .int v36, .ref m37, .ref m38, .ref m39, .ref m40, .long v41])), (m5, .inl (k 1, 1000, .inl f5))]) hP hD [0, 1] [] rfl rfl (by decide +kernel) (by decide +kernel) hk1 hFc hP1 hD1
      clear hK1 hP1 hD1 hPc hDc hFc
      clear hk1 hz1 ht hvm
      have hP : va_P D vwCl [(mo, .inr (12, [.int v0, .ref m1, .ref m2, .ref m3, .ref m4, .ref m5, .int v6, .int L0f0x7, .int v8, .int v9, .int v10, .long v11, .int v12, .int v13, .int v14, .int v15, .ref m16, .ref m17, .ref m18, .ref m19, .ref m20, .ref m21, .ref m22, .ref m23, .int v24, .ref m25, .ref m26, .ref m27, .ref m28, .ref m29, .int v30, .ref m31, .ref m32, .ref m33, .int v34, .int v35, .int v36, .ref m37, .ref m38, .ref m39, .ref m40, .long v41])), (m5, .inl (k 1, 1000, .inl f5))] H1 := hP
      have hD : va_D A [(mo, .inr (12, [.int v0, .ref m1, .ref m2, .ref m3, .ref m4, .ref m5, .int v6, .int L0f0x7, .int v8, .int v9, .int v10, .long v11, .int v12, .int v13, .int v14, .int v15, .ref m16, .ref m17, .ref m18, .ref m19, .ref m20, .ref m21, .ref m22, .ref m23, .int v24, .ref m25, .ref m26, .ref m27, .ref m28, .ref m29, .int v30, .ref m31, .ref m32, .ref m33, .int v34, .int v35, .int v36, .ref m37, .ref m38, .ref m39, .ref m40, .long v41])), (m5, .inl (k 1, 1000, .inl f5))] := hD
      generalize H1 = H at hP hS ⊢
      have hw_18 : (0 ≤ r_17.toInt ∧ r_17.toInt ≤ 1) ∧ (r_17 = isByteOf f5 v6 L0f0x7 10 10) ∧ ((r_17.toInt = 1 ∧ L0f0x7.toInt < v6.toInt) ∨ r_17.toInt = 0) := hw
      obtain ⟨hw_19, hw_20, hw_21⟩ := hw_18
      clear hw
      refine lv_if_eq (tgt := 43) hx hb dX12_next_27 (by decide) (fun h_22 => ?_) (fun h_22 => ?_)
      · skip
        have zh_22 : r_17.toInt = 0 := z_eq h_22
        refine lv_aload_n hx hb dX12_next_43 rfl (lv_at hl 0 rfl) ?_
        refine lv_aload_n hx hb dX12_next_44 rfl (lv_at hl 0 rfl) ?_
        refine va_get (D := D) (ci := 12) (v := .int L0f0x7) (C := RX12) (T := TX12) (N := 42) hx hb hts iT_X12 hown hK hP 0 rfl rfl 7 (by decide) (hts _ tw_6_60) (fun _ h9 => h9) rfl dX12_next_45 ?_
        refine va_put (D := D) (ci := 12) (v := .int L0f0x7) (ty := tyX12 9) (C := RX12) (T := TX12) (N := 42) hx hb hts iT_X12 tyX12 tyX12_ok nmX12 hown hK hP hD hS 0 rfl rfl 9 (by decide) (hts _ tw_6_62) (fun _ h9 => h9) rfl (tyX12_ok 9 (by decide)) rfl rfl (Nat.le_of_ble_eq_true rfl) dX12_next_48 (fun H locs hP hD hS => ?_)
        have hP : va_P D vwCl [(mo, .inr (12, [.int v0, .ref m1, .ref m2, .ref m3, .ref m4, .ref m5, .int v6, .int L0f0x7, .int v8, .int L0f0x7, .int v10, .long v11, .int v12, .int v13, .int v14, .int v15, .ref m16, .ref m17, .ref m18, .ref m19, .ref m20, .ref m21, .ref m22, .ref m23, .int v24, .ref m25, .ref m26, .ref m27, .ref m28, .ref m29, .int v30, .ref m31, .ref m32, .ref m33, .int v34, .int v35, .int v36, .ref m37, .ref m38, .ref m39, .ref m40, .long v41])), (m5, .inl (k 1, 1000, .inl f5))] H := hP
        have hD : va_D A [(mo, .inr (12, [.int v0, .ref m1, .ref m2, .ref m3, .ref m4, .ref m5, .int v6, .int L0f0x7, .int v8, .int L0f0x7, .int v10, .long v11, .int v12, .int v13, .int v14, .int v15, .ref m16, .ref m17, .ref m18, .ref m19, .ref m20, .ref m21, .ref m22, .ref m23, .int v24, .ref m25, .ref m26, .ref m27, .ref m28, .ref m29, .int v30, .ref m31, .ref m32, .ref m33, .int v34, .int v35, .int v36, .ref m37, .ref m38, .ref m39, .ref m40, .long v41])), (m5, .inl (k 1, 1000, .inl f5))] := hD
        refine lv_aload_n hx hb dX12_next_51 rfl (lv_at hl 0 rfl) ?_
        refine lv_iconst (v := 0) hx hb dX12_next_52 (by decide) ?_
        refine va_put (D := D) (ci := 12) (v := .int 0) (ty := tyX12 10) (C := RX12) (T := TX12) (N := 42) hx hb hts iT_X12 tyX12 tyX12_ok nmX12 hown hK hP hD hS 0 rfl rfl 10 (by decide) (hts _ tw_6_63) (fun _ h9 => h9) rfl (tyX12_ok 10 (by decide)) rfl rfl (Nat.le_of_ble_eq_true rfl) dX12_next_53 (fun H locs hP hD hS => ?_)
        have hP : va_P D vwCl [(mo, .inr (12, [.int v0, .ref m1, .ref m2, .ref m3, .ref m4, .ref m5, .int v6, .int L0f0x7, .int v8, .int L0f0x7, .int 0, .long v11, .int v12, .int v13, .int v14, .int v15, .ref m16, .ref m17, .ref m18, .ref m19, .ref m20, .ref m21, .ref m22, .ref m23, .int v24, .ref m25, .ref m26, .ref m27, .ref m28, .ref m29, .int v30, .ref m31, .ref m32, .ref m33, .int v34, .int v35, .int v36, .ref m37, .ref m38, .ref m39, .ref m40, .long v41])), (m5, .inl (k 1, 1000, .inl f5))] H := hP
        have hD : va_D A [(mo, .inr (12, [.int v0, .ref m1, .ref m2, .ref m3, .ref m4, .ref m5, .int v6, .int L0f0x7, .int v8, .int L0f0x7, .int 0, .long v11, .int v12, .int v13, .int v14, .int v15, .ref m16, .ref m17, .ref m18, .ref m19, .ref m20, .ref m21, .ref m22, .ref m23, .int v24, .ref m25, .ref m26, .ref m27, .ref m28, .ref m29, .int v30, .ref m31, .ref m32, .ref m33, .int v34, .int v35, .int v36, .ref m37, .ref m38, .ref m39, .ref m40, .long v41])), (m5, .inl (k 1, 1000, .inl f5))] := hD
        refine lv_aload_n hx hb dX12_next_56 rfl (lv_at hl 0 rfl) ?_
        refine lv_lconst (v := 0) hx hb dX12_next_57 (by decide) ?_
        refine va_put (D := D) (ci := 12) (v := .long 0) (ty := tyX12 11) (C := RX12) (T := TX12) (N := 42) hx hb hts iT_X12 tyX12 tyX12_ok nmX12 hown hK hP hD hS 0 rfl rfl 11 (by decide) (hts _ tw_6_64) (fun _ h9 => h9) rfl (tyX12_ok 11 (by decide)) rfl rfl (Nat.le_of_ble_eq_true rfl) dX12_next_58 (fun H locs hP hD hS => ?_)
        have hP : va_P D vwCl [(mo, .inr (12, [.int v0, .ref m1, .ref m2, .ref m3, .ref m4, .ref m5, .int v6, .int L0f0x7, .int v8, .int L0f0x7, .int 0, .long 0, .int v12, .int v13, .int v14, .int v15, .ref m16, .ref m17, .ref m18, .ref m19, .ref m20, .ref m21, .ref m22, .ref m23, .int v24, .ref m25, .ref m26, .ref m27, .ref m28, .ref m29, .int v30, .ref m31, .ref m32, .ref m33, .int v34, .int v35, .int v36, .ref m37, .ref m38, .ref m39, .ref m40, .long v41])), (m5, .inl (k 1, 1000, .inl f5))] H := hP
        have hD : va_D A [(mo, .inr (12, [.int v0, .ref m1, .ref m2, .ref m3, .ref m4, .ref m5, .int v6, .int L0f0x7, .int v8, .int L0f0x7, .int 0, .long 0, .int v12, .int v13, .int v14, .int v15, .ref m16, .ref m17, .ref m18, .ref m19, .ref m20, .ref m21, .ref m22, .ref m23, .int v24, .ref m25, .ref m26, .ref m27, .ref m28, .ref m29, .int v30, .ref m31, .ref m32, .ref m33, .int v34, .int v35, .int v36, .ref m37, .ref m38, .ref m39, .ref m40, .long v41])), (m5, .inl (k 1, 1000, .inl f5))] := hD
        refine lv_aload_n hx hb dX12_next_61 rfl (lv_at hl 0 rfl) ?_
        refine va_get (D := D) (ci := 12) (v := .int L0f0x7) (C := RX12) (T := TX12) (N := 42) hx hb hts iT_X12 hown hK hP 0 rfl rfl 7 (by decide) (hts _ tw_6_60) (fun _ h9 => h9) rfl dX12_next_62 ?_
        refine lv_aload_n hx hb dX12_next_65 rfl (lv_at hl 0 rfl) ?_
        refine va_get (D := D) (ci := 12) (v := .int v6) (C := RX12) (T := TX12) (N := 42) hx hb hts iT_X12 hown hK hP 0 rfl rfl 6 (by decide) (hts _ tw_6_59) (fun _ h9 => h9) rfl dX12_next_66 ?_
        refine lv_icmp_ne (tgt := 80) hx hb dX12_next_69 (by decide) (fun h_23 => ?_) (fun h_23 => ?_)
        · skip
          have zh_23 : ¬ L0f0x7.toInt = v6.toInt := z_ne h_23
          refine lv_aload_n hx hb dX12_next_80 rfl (lv_at hl 0 rfl) ?_
          refine lv_aload_n hx hb dX12_next_81 rfl (lv_at hl 0 rfl) ?_
          refine va_get (D := D) (ci := 12) (v := .int L0f0x7) (C := RX12) (T := TX12) (N := 42) hx hb hts iT_X12 hown hK hP 0 rfl rfl 7 (by decide) (hts _ tw_6_60) (fun _ h9 => h9) rfl dX12_next_82 ?_
          refine lv_bipush (v := 97) hx hb dX12_next_85 (by decide) ?_
          refine lv_bipush (v := 122) hx hb dX12_next_87 (by decide) ?_
          obtain ⟨hPc, hDc, hFc⟩ := sub3 hP hD hS hA (ws' := [(mo, .inr (12, [.int v0, .ref m1, .ref m2, .ref m3, .ref m4, .ref m5, .int v6, .int L0f0x7, .int v8, .int L0f0x7, .int 0, .long 0, .int v12, .int v13, .int v14, .int v15, .ref m16, .ref m17, .ref m18, .ref m19, .ref m20, .ref m21, .ref m22, .ref m23, .int v24, .ref m25, .ref m26, .ref m27, .ref m28, .ref m29, .int v30, .ref m31, .ref m32, .ref m33, .int v34, .int v35, .int v36, .ref m37, .ref m38, .ref m39, .ref m40, .long v41])), (m5, .inl (k 1, 1000, .inl f5))]) [0, 1] (by decide +kernel) rfl
          refine va_calli (va_runV (C := RX12) (As := [.int L0f0x7, .int 97, .int 122]) (rest := []) ⟨hx, hb, hml, hown, hts⟩ (c_X12_isByte l D k mo L0f0x7 97 122 v0 m1 m2 m3 m4 m5 v6 L0f0x7 v8 L0f0x7 0 0 v12 v13 v14 v15 m16 m17 m18 m19 m20 m21 m22 m23 v24 m25 m26 m27 m28 m29 v30 m31 m32 m33 v34 v35 v36 m37 m38 m39 m40 v41 f5 H.size (show 0 ≤ L0f0x7.toInt ∧ L0f0x7.toInt ≤ 1000 from by omega) (show 0 ≤ v6.toInt ∧ v6.toInt ≤ 1000 from by omega) (show 0 ≤ v24.toInt ∧ v24.toInt ≤ 1023 from by omega)) (cwV 3 hts (gV tw_6_238 tw_7_0 tw_p_40 tw_1_13 tw_7_1) rfl rfl rfl hdV_X12_isByte ⟨Nat.le_of_ble_eq_true rfl, Nat.le_of_ble_eq_true rfl⟩) (cz_V hK hPc hDc hN (ci := 12) (q0 := 0) rfl rfl [.int L0f0x7, .int 97, .int 122]) rfl rfl hl.1 rfl (lv_room (Nat.le_of_ble_eq_true rfl)) dX12_next_89 ⟨Nat.le_of_ble_eq_true rfl, Nat.le_of_ble_eq_true rfl⟩) hS (fun q _ h => hFc q h) hFc (fun r_24 uZ tZ H1 locs ht hvm hw hB hz1 hk1 hS => ?_)
          obtain ⟨hP1, hK1, hD1⟩ := hB
          rw [ht] at hP1
          obtain ⟨hP, hD⟩ := va_join (wr := []) (w1 := [(mo, .inr (12, [.int v0, .ref m1, .ref m2, .ref m3, .ref m4, .ref m5, .int v6, .int L0f0x7, .int v8, .int L0f0x7, .int 0, .long 0, .int v12, .int v13, .int v14, .int v15, .ref m16, .ref m17, .ref m18, .ref m19, .ref m20, .ref m21, .ref m22, .ref m23, .int v24, .ref m25, .ref m26, .ref m27, .ref m28, .ref m29, .int v30, .ref m31, .ref m32, .ref m33, .int v34, .int v35, .int v36, .ref m37, .ref m38, .ref m39, .ref m40, .long v41])), (m5, .inl (k 1, 1000, .inl f5))]) hP hD [0, 1] [] rfl rfl (by decide +kernel) (by decide +kernel) hk1 hFc hP1 hD1
          clear hK1 hP1 hD1 hPc hDc hFc
          clear hk1 hz1 ht hvm
          have hP : va_P D vwCl [(mo, .inr (12, [.int v0, .ref m1, .ref m2, .ref m3, .ref m4, .ref m5, .int v6, .int L0f0x7, .int v8, .int L0f0x7, .int 0, .long 0, .int v12, .int v13, .int v14, .int v15, .ref m16, .ref m17, .ref m18, .ref m19, .ref m20, .ref m21, .ref m22, .ref m23, .int v24, .ref m25, .ref m26, .ref m27, .ref m28, .ref m29, .int v30, .ref m31, .ref m32, .ref m33, .int v34, .int v35, .int v36, .ref m37, .ref m38, .ref m39, .ref m40, .long v41])), (m5, .inl (k 1, 1000, .inl f5))] H1 := hP
          have hD : va_D A [(mo, .inr (12, [.int v0, .ref m1, .ref m2, .ref m3, .ref m4, .ref m5, .int v6, .int L0f0x7, .int v8, .int L0f0x7, .int 0, .long 0, .int v12, .int v13, .int v14, .int v15, .ref m16, .ref m17, .ref m18, .ref m19, .ref m20, .ref m21, .ref m22, .ref m23, .int v24, .ref m25, .ref m26, .ref m27, .ref m28, .ref m29, .int v30, .ref m31, .ref m32, .ref m33, .int v34, .int v35, .int v36, .ref m37, .ref m38, .ref m39, .ref m40, .long v41])), (m5, .inl (k 1, 1000, .inl f5))] := hD
          generalize H1 = H at hP hS ⊢
          have hw_25 : (0 ≤ r_24.toInt ∧ r_24.toInt ≤ 1) ∧ (r_24 = isByteOf f5 v6 L0f0x7 97 122) ∧ ((r_24.toInt = 1 ∧ L0f0x7.toInt < v6.toInt) ∨ r_24.toInt = 0) := hw
          obtain ⟨hw_26, hw_27, hw_28⟩ := hw_25
          clear hw
          refine lv_if_eq (tgt := 188) hx hb dX12_next_92 (by decide) (fun h_29 => ?_) (fun h_29 => ?_)
          · skip
            have zh_29 : r_24.toInt = 0 := z_eq h_29
            refine lv_aload_n hx hb dX12_next_188 rfl (lv_at hl 0 rfl) ?_
            refine lv_aload_n hx hb dX12_next_189 rfl (lv_at hl 0 rfl) ?_
            refine va_get (D := D) (ci := 12) (v := .int L0f0x7) (C := RX12) (T := TX12) (N := 42) hx hb hts iT_X12 hown hK hP 0 rfl rfl 7 (by decide) (hts _ tw_6_60) (fun _ h9 => h9) rfl dX12_next_190 ?_
            refine lv_bipush (v := 48) hx hb dX12_next_193 (by decide) ?_
            refine lv_bipush (v := 57) hx hb dX12_next_195 (by decide) ?_
            obtain ⟨hPc, hDc, hFc⟩ := sub3 hP hD hS hA (ws' := [(mo, .inr (12, [.int v0, .ref m1, .ref m2, .ref m3, .ref m4, .ref m5, .int v6, .int L0f0x7, .int v8, .int L0f0x7, .int 0, .long 0, .int v12, .int v13, .int v14, .int v15, .ref m16, .ref m17, .ref m18, .ref m19, .ref m20, .ref m21, .ref m22, .ref m23, .int v24, .ref m25, .ref m26, .ref m27, .ref m28, .ref m29, .int v30, .ref m31, .ref m32, .ref m33, .int v34, .int v35, .int v36, .ref m37, .ref m38, .ref m39, .ref m40, .long v41])), (m5, .inl (k 1, 1000, .inl f5))]) [0, 1] (by decide +kernel) rfl
            refine va_calli (va_runV (C := RX12) (As := [.int L0f0x7, .int 48, .int 57]) (rest := []) ⟨hx, hb, hml, hown, hts⟩ (c_X12_isByte l D k mo L0f0x7 48 57 v0 m1 m2 m3 m4 m5 v6 L0f0x7 v8 L0f0x7 0 0 v12 v13 v14 v15 m16 m17 m18 m19 m20 m21 m22 m23 v24 m25 m26 m27 m28 m29 v30 m31 m32 m33 v34 v35 v36 m37 m38 m39 m40 v41 f5 H.size (show 0 ≤ L0f0x7.toInt ∧ L0f0x7.toInt ≤ 1000 from by omega) (show 0 ≤ v6.toInt ∧ v6.toInt ≤ 1000 from by omega) (show 0 ≤ v24.toInt ∧ v24.toInt ≤ 1023 from by omega)) (cwV 3 hts (gV tw_6_238 tw_7_0 tw_p_40 tw_1_13 tw_7_1) rfl rfl rfl hdV_X12_isByte ⟨Nat.le_of_ble_eq_true rfl, Nat.le_of_ble_eq_true rfl⟩) (cz_V hK hPc hDc hN (ci := 12) (q0 := 0) rfl rfl [.int L0f0x7, .int 48, .int 57]) rfl rfl hl.1 rfl (lv_room (Nat.le_of_ble_eq_true rfl)) dX12_next_197 ⟨Nat.le_of_ble_eq_true rfl, Nat.le_of_ble_eq_true rfl⟩) hS (fun q _ h => hFc q h) hFc (fun r_30 uZ tZ H1 locs ht hvm hw hB hz1 hk1 hS => ?_)
            obtain ⟨hP1, hK1, hD1⟩ := hB
            rw [ht] at hP1
            obtain ⟨hP, hD⟩ := va_join (wr := []) (w1 := [(mo, .inr (12, [.int v0, .ref m1, .ref m2, .ref m3, .ref m4, .ref m5, .int v6, .int L0f0x7, .int v8, .int L0f0x7, .int 0, .long 0, .int v12, .int v13, .int v14, .int v15, .ref m16, .ref m17, .ref m18, .ref m19, .ref m20, .ref m21, .ref m22, .ref m23, .int v24, .ref m25, .ref m26, .ref m27, .ref m28, .ref m29, .int v30, .ref m31, .ref m32, .ref m33, .int v34, .int v35, .int v36, .ref m37, .ref m38, .ref m39, .ref m40, .long v41])), (m5, .inl (k 1, 1000, .inl f5))]) hP hD [0, 1] [] rfl rfl (by decide +kernel) (by decide +kernel) hk1 hFc hP1 hD1
            clear hK1 hP1 hD1 hPc hDc hFc
            clear hk1 hz1 ht hvm
            have hP : va_P D vwCl [(mo, .inr (12, [.int v0, .ref m1, .ref m2, .ref m3, .ref m4, .ref m5, .int v6, .int L0f0x7, .int v8, .int L0f0x7, .int 0, .long 0, .int v12, .int v13, .int v14, .int v15, .ref m16, .ref m17, .ref m18, .ref m19, .ref m20, .ref m21, .ref m22, .ref m23, .int v24, .ref m25, .ref m26, .ref m27, .ref m28, .ref m29, .int v30, .ref m31, .ref m32, .ref m33, .int v34, .int v35, .int v36, .ref m37, .ref m38, .ref m39, .ref m40, .long v41])), (m5, .inl (k 1, 1000, .inl f5))] H1 := hP
            have hD : va_D A [(mo, .inr (12, [.int v0, .ref m1, .ref m2, .ref m3, .ref m4, .ref m5, .int v6, .int L0f0x7, .int v8, .int L0f0x7, .int 0, .long 0, .int v12, .int v13, .int v14, .int v15, .ref m16, .ref m17, .ref m18, .ref m19, .ref m20, .ref m21, .ref m22, .ref m23, .int v24, .ref m25, .ref m26, .ref m27, .ref m28, .ref m29, .int v30, .ref m31, .ref m32, .ref m33, .int v34, .int v35, .int v36, .ref m37, .ref m38, .ref m39, .ref m40, .long v41])), (m5, .inl (k 1, 1000, .inl f5))] := hD
            generalize H1 = H at hP hS ⊢
            have hw_31 : (0 ≤ r_30.toInt ∧ r_30.toInt ≤ 1) ∧ (r_30 = isByteOf f5 v6 L0f0x7 48 57) ∧ ((r_30.toInt = 1 ∧ L0f0x7.toInt < v6.toInt) ∨ r_30.toInt = 0) := hw
            obtain ⟨hw_32, hw_33, hw_34⟩ := hw_31
            clear hw
            refine lv_if_eq (tgt := 274) hx hb dX12_next_200 (by decide) (fun h_35 => ?_) (fun h_35 => ?_)
            · skip
              have zh_35 : r_30.toInt = 0 := z_eq h_35
              refine lv_aload_n hx hb dX12_next_274 rfl (lv_at hl 0 rfl) ?_
              refine lv_aload_n hx hb dX12_next_275 rfl (lv_at hl 0 rfl) ?_
              refine va_get (D := D) (ci := 12) (v := .ref m5) (C := RX12) (T := TX12) (N := 42) hx hb hts iT_X12 hown hK hP 0 rfl rfl 5 (by decide) (hts _ tw_6_58) (fun _ h9 => h9) rfl dX12_next_276 ?_
              refine lv_aload_n hx hb dX12_next_279 rfl (lv_at hl 0 rfl) ?_
              refine va_get (D := D) (ci := 12) (v := .int L0f0x7) (C := RX12) (T := TX12) (N := 42) hx hb hts iT_X12 hown hK hP 0 rfl rfl 7 (by decide) (hts _ tw_6_60) (fun _ h9 => h9) rfl dX12_next_280 ?_
              refine va_bald hx hb hK hP 1 1 rfl rfl (z_in (by omega) (by omega)) dX12_next_283 ?_
              refine lv_topi (fun x_36 ex_36 => ?_)
              refine lv_bipush (v := 59) hx hb dX12_next_284 (by decide) ?_
              refine lv_icmp_ne (tgt := 293) hx hb dX12_next_286 (by decide) (fun h_37 => ?_) (fun h_37 => ?_)
              · skip
                have zh_37 : ¬ x_36.toInt = 59 := z_ne h_37
                refine lv_iconst (v := 4) hx hb dX12_next_293 (by decide) ?_
                refine va_put (D := D) (ci := 12) (v := .int 4) (ty := tyX12 8) (C := RX12) (T := TX12) (N := 42) hx hb hts iT_X12 tyX12 tyX12_ok nmX12 hown hK hP hD hS 0 rfl rfl 8 (by decide) (hts _ tw_6_61) (fun _ h9 => h9) rfl (tyX12_ok 8 (by decide)) rfl rfl (Nat.le_of_ble_eq_true rfl) dX12_next_294 (fun H locs hP hD hS => ?_)
                have hP : va_P D vwCl [(mo, .inr (12, [.int v0, .ref m1, .ref m2, .ref m3, .ref m4, .ref m5, .int v6, .int L0f0x7, .int 4, .int L0f0x7, .int 0, .long 0, .int v12, .int v13, .int v14, .int v15, .ref m16, .ref m17, .ref m18, .ref m19, .ref m20, .ref m21, .ref m22, .ref m23, .int v24, .ref m25, .ref m26, .ref m27, .ref m28, .ref m29, .int v30, .ref m31, .ref m32, .ref m33, .int v34, .int v35, .int v36, .ref m37, .ref m38, .ref m39, .ref m40, .long v41])), (m5, .inl (k 1, 1000, .inl f5))] H := hP
                have hD : va_D A [(mo, .inr (12, [.int v0, .ref m1, .ref m2, .ref m3, .ref m4, .ref m5, .int v6, .int L0f0x7, .int 4, .int L0f0x7, .int 0, .long 0, .int v12, .int v13, .int v14, .int v15, .ref m16, .ref m17, .ref m18, .ref m19, .ref m20, .ref m21, .ref m22, .ref m23, .int v24, .ref m25, .ref m26, .ref m27, .ref m28, .ref m29, .int v30, .ref m31, .ref m32, .ref m33, .int v34, .int v35, .int v36, .ref m37, .ref m38, .ref m39, .ref m40, .long v41])), (m5, .inl (k 1, 1000, .inl f5))] := hD
                refine lv_aload_n hx hb dX12_next_297 rfl (lv_at hl 0 rfl) ?_
                refine lv_dup hx hb dX12_next_298 rfl ?_
                refine va_get (D := D) (ci := 12) (v := .int L0f0x7) (C := RX12) (T := TX12) (N := 42) hx hb hts iT_X12 hown hK hP 0 rfl rfl 7 (by decide) (hts _ tw_6_60) (fun _ h9 => h9) rfl dX12_next_299 ?_
                refine lv_iconst (v := 1) hx hb dX12_next_302 (by decide) ?_
                refine lv_iadd hx hb dX12_next_303 ?_
                refine lv_topi (fun x_38 ex_38 => ?_)
                have zx_38 : x_38.toInt = L0f0x7.toInt + 1 := by rw [ex_38]; exact z_add rfl rfl (by omega) (by omega)
                refine va_put (D := D) (ci := 12) (v := .int x_38) (ty := tyX12 7) (C := RX12) (T := TX12) (N := 42) hx hb hts iT_X12 tyX12 tyX12_ok nmX12 hown hK hP hD hS 0 rfl rfl 7 (by decide) (hts _ tw_6_60) (fun _ h9 => h9) rfl (tyX12_ok 7 (by decide)) rfl rfl (Nat.le_of_ble_eq_true rfl) dX12_next_304 (fun H locs hP hD hS => ?_)
                have hP : va_P D vwCl [(mo, .inr (12, [.int v0, .ref m1, .ref m2, .ref m3, .ref m4, .ref m5, .int v6, .int x_38, .int 4, .int L0f0x7, .int 0, .long 0, .int v12, .int v13, .int v14, .int v15, .ref m16, .ref m17, .ref m18, .ref m19, .ref m20, .ref m21, .ref m22, .ref m23, .int v24, .ref m25, .ref m26, .ref m27, .ref m28, .ref m29, .int v30, .ref m31, .ref m32, .ref m33, .int v34, .int v35, .int v36, .ref m37, .ref m38, .ref m39, .ref m40, .long v41])), (m5, .inl (k 1, 1000, .inl f5))] H := hP
                have hD : va_D A [(mo, .inr (12, [.int v0, .ref m1, .ref m2, .ref m3, .ref m4, .ref m5, .int v6, .int x_38, .int 4, .int L0f0x7, .int 0, .long 0, .int v12, .int v13, .int v14, .int v15, .ref m16, .ref m17, .ref m18, .ref m19, .ref m20, .ref m21, .ref m22, .ref m23, .int v24, .ref m25, .ref m26, .ref m27, .ref m28, .ref m29, .int v30, .ref m31, .ref m32, .ref m33, .int v34, .int v35, .int v36, .ref m37, .ref m38, .ref m39, .ref m40, .long v41])), (m5, .inl (k 1, 1000, .inl f5))] := hD
                obtain ⟨hP9, hD9⟩ := sub2 hP hD (ws' := [(mo, .inr (12, [.int v0, .ref m1, .ref m2, .ref m3, .ref m4, .ref m5, .int v6, .int x_38, .int 4, .int L0f0x7, .int 0, .long 0, .int v12, .int v13, .int v14, .int v15, .ref m16, .ref m17, .ref m18, .ref m19, .ref m20, .ref m21, .ref m22, .ref m23, .int v24, .ref m25, .ref m26, .ref m27, .ref m28, .ref m29, .int v30, .ref m31, .ref m32, .ref m33, .int v34, .int v35, .int v36, .ref m37, .ref m38, .ref m39, .ref m40, .long v41])), (m5, .inl (k 1, 1000, .inl f5))]) [0, 1] (by decide +kernel) rfl
                exact W.vret hx hb hr (fun tZ ht hW => ⟨⟨(x_38, 4, L0f0x7, 0, 0), rfl, ⟨(show 0 ≤ x_38.toInt ∧ x_38.toInt ≤ 1000 from by omega), (show 0 ≤ 4 ∧ 4 ≤ 4 from by omega), (show 0 ≤ L0f0x7.toInt ∧ L0f0x7.toInt ≤ 1000 from by omega), (show v7.toInt ≤ x_38.toInt ∧ x_38.toInt ≤ v6.toInt from by omega), (show 4 = 0 ∨ v7.toInt < x_38.toInt from by omega)⟩, by rw [ht]; exact hP9, va_K.moved hW.alike hK, hD9⟩, hS.F ht⟩) hS.2.2 dX12_next_307
              · skip
                have zh_37 : x_36.toInt = 59 := z_eq h_37
                refine lv_iconst (v := 3) hx hb dX12_next_289 (by decide) ?_
                refine lv_goto (tgt := 294) hx hb dX12_next_290 (by decide) ?_
                refine va_put (D := D) (ci := 12) (v := .int 3) (ty := tyX12 8) (C := RX12) (T := TX12) (N := 42) hx hb hts iT_X12 tyX12 tyX12_ok nmX12 hown hK hP hD hS 0 rfl rfl 8 (by decide) (hts _ tw_6_61) (fun _ h9 => h9) rfl (tyX12_ok 8 (by decide)) rfl rfl (Nat.le_of_ble_eq_true rfl) dX12_next_294 (fun H locs hP hD hS => ?_)
                have hP : va_P D vwCl [(mo, .inr (12, [.int v0, .ref m1, .ref m2, .ref m3, .ref m4, .ref m5, .int v6, .int L0f0x7, .int 3, .int L0f0x7, .int 0, .long 0, .int v12, .int v13, .int v14, .int v15, .ref m16, .ref m17, .ref m18, .ref m19, .ref m20, .ref m21, .ref m22, .ref m23, .int v24, .ref m25, .ref m26, .ref m27, .ref m28, .ref m29, .int v30, .ref m31, .ref m32, .ref m33, .int v34, .int v35, .int v36, .ref m37, .ref m38, .ref m39, .ref m40, .long v41])), (m5, .inl (k 1, 1000, .inl f5))] H := hP
                have hD : va_D A [(mo, .inr (12, [.int v0, .ref m1, .ref m2, .ref m3, .ref m4, .ref m5, .int v6, .int L0f0x7, .int 3, .int L0f0x7, .int 0, .long 0, .int v12, .int v13, .int v14, .int v15, .ref m16, .ref m17, .ref m18, .ref m19, .ref m20, .ref m21, .ref m22, .ref m23, .int v24, .ref m25, .ref m26, .ref m27, .ref m28, .ref m29, .int v30, .ref m31, .ref m32, .ref m33, .int v34, .int v35, .int v36, .ref m37, .ref m38, .ref m39, .ref m40, .long v41])), (m5, .inl (k 1, 1000, .inl f5))] := hD
                refine lv_aload_n hx hb dX12_next_297 rfl (lv_at hl 0 rfl) ?_
                refine lv_dup hx hb dX12_next_298 rfl ?_
                refine va_get (D := D) (ci := 12) (v := .int L0f0x7) (C := RX12) (T := TX12) (N := 42) hx hb hts iT_X12 hown hK hP 0 rfl rfl 7 (by decide) (hts _ tw_6_60) (fun _ h9 => h9) rfl dX12_next_299 ?_
                refine lv_iconst (v := 1) hx hb dX12_next_302 (by decide) ?_
                refine lv_iadd hx hb dX12_next_303 ?_
                refine lv_topi (fun x_39 ex_39 => ?_)
                have zx_39 : x_39.toInt = L0f0x7.toInt + 1 := by rw [ex_39]; exact z_add rfl rfl (by omega) (by omega)
                refine va_put (D := D) (ci := 12) (v := .int x_39) (ty := tyX12 7) (C := RX12) (T := TX12) (N := 42) hx hb hts iT_X12 tyX12 tyX12_ok nmX12 hown hK hP hD hS 0 rfl rfl 7 (by decide) (hts _ tw_6_60) (fun _ h9 => h9) rfl (tyX12_ok 7 (by decide)) rfl rfl (Nat.le_of_ble_eq_true rfl) dX12_next_304 (fun H locs hP hD hS => ?_)
                have hP : va_P D vwCl [(mo, .inr (12, [.int v0, .ref m1, .ref m2, .ref m3, .ref m4, .ref m5, .int v6, .int x_39, .int 3, .int L0f0x7, .int 0, .long 0, .int v12, .int v13, .int v14, .int v15, .ref m16, .ref m17, .ref m18, .ref m19, .ref m20, .ref m21, .ref m22, .ref m23, .int v24, .ref m25, .ref m26, .ref m27, .ref m28, .ref m29, .int v30, .ref m31, .ref m32, .ref m33, .int v34, .int v35, .int v36, .ref m37, .ref m38, .ref m39, .ref m40, .long v41])), (m5, .inl (k 1, 1000, .inl f5))] H := hP
                have hD : va_D A [(mo, .inr (12, [.int v0, .ref m1, .ref m2, .ref m3, .ref m4, .ref m5, .int v6, .int x_39, .int 3, .int L0f0x7, .int 0, .long 0, .int v12, .int v13, .int v14, .int v15, .ref m16, .ref m17, .ref m18, .ref m19, .ref m20, .ref m21, .ref m22, .ref m23, .int v24, .ref m25, .ref m26, .ref m27, .ref m28, .ref m29, .int v30, .ref m31, .ref m32, .ref m33, .int v34, .int v35, .int v36, .ref m37, .ref m38, .ref m39, .ref m40, .long v41])), (m5, .inl (k 1, 1000, .inl f5))] := hD
                obtain ⟨hP9, hD9⟩ := sub2 hP hD (ws' := [(mo, .inr (12, [.int v0, .ref m1, .ref m2, .ref m3, .ref m4, .ref m5, .int v6, .int x_39, .int 3, .int L0f0x7, .int 0, .long 0, .int v12, .int v13, .int v14, .int v15, .ref m16, .ref m17, .ref m18, .ref m19, .ref m20, .ref m21, .ref m22, .ref m23, .int v24, .ref m25, .ref m26, .ref m27, .ref m28, .ref m29, .int v30, .ref m31, .ref m32, .ref m33, .int v34, .int v35, .int v36, .ref m37, .ref m38, .ref m39, .ref m40, .long v41])), (m5, .inl (k 1, 1000, .inl f5))]) [0, 1] (by decide +kernel) rfl
                exact W.vret hx hb hr (fun tZ ht hW => ⟨⟨(x_39, 3, L0f0x7, 0, 0), rfl, ⟨(show 0 ≤ x_39.toInt ∧ x_39.toInt ≤ 1000 from by omega), (show 0 ≤ 3 ∧ 3 ≤ 4 from by omega), (show 0 ≤ L0f0x7.toInt ∧ L0f0x7.toInt ≤ 1000 from by omega), (show v7.toInt ≤ x_39.toInt ∧ x_39.toInt ≤ v6.toInt from by omega), (show 3 = 0 ∨ v7.toInt < x_39.toInt from by omega)⟩, by rw [ht]; exact hP9, va_K.moved hW.alike hK, hD9⟩, hS.F ht⟩) hS.2.2 dX12_next_307
            · skip
              have zh_35 : ¬ r_30.toInt = 0 := z_ne h_35
              refine lv_aload_n hx hb dX12_next_203 rfl (lv_at hl 0 rfl) ?_
              refine lv_iconst (v := 2) hx hb dX12_next_204 (by decide) ?_
              refine va_put (D := D) (ci := 12) (v := .int 2) (ty := tyX12 8) (C := RX12) (T := TX12) (N := 42) hx hb hts iT_X12 tyX12 tyX12_ok nmX12 hown hK hP hD hS 0 rfl rfl 8 (by decide) (hts _ tw_6_61) (fun _ h9 => h9) rfl (tyX12_ok 8 (by decide)) rfl rfl (Nat.le_of_ble_eq_true rfl) dX12_next_205 (fun H locs hP hD hS => ?_)
              have hP : va_P D vwCl [(mo, .inr (12, [.int v0, .ref m1, .ref m2, .ref m3, .ref m4, .ref m5, .int v6, .int L0f0x7, .int 2, .int L0f0x7, .int 0, .long 0, .int v12, .int v13, .int v14, .int v15, .ref m16, .ref m17, .ref m18, .ref m19, .ref m20, .ref m21, .ref m22, .ref m23, .int v24, .ref m25, .ref m26, .ref m27, .ref m28, .ref m29, .int v30, .ref m31, .ref m32, .ref m33, .int v34, .int v35, .int v36, .ref m37, .ref m38, .ref m39, .ref m40, .long v41])), (m5, .inl (k 1, 1000, .inl f5))] H := hP
              have hD : va_D A [(mo, .inr (12, [.int v0, .ref m1, .ref m2, .ref m3, .ref m4, .ref m5, .int v6, .int L0f0x7, .int 2, .int L0f0x7, .int 0, .long 0, .int v12, .int v13, .int v14, .int v15, .ref m16, .ref m17, .ref m18, .ref m19, .ref m20, .ref m21, .ref m22, .ref m23, .int v24, .ref m25, .ref m26, .ref m27, .ref m28, .ref m29, .int v30, .ref m31, .ref m32, .ref m33, .int v34, .int v35, .int v36, .ref m37, .ref m38, .ref m39, .ref m40, .long v41])), (m5, .inl (k 1, 1000, .inl f5))] := hD
              refine lv_aload_n hx hb dX12_next_208 rfl (lv_at hl 0 rfl) ?_
              refine lv_aload_n hx hb dX12_next_209 rfl (lv_at hl 0 rfl) ?_
              refine va_get (D := D) (ci := 12) (v := .int L0f0x7) (C := RX12) (T := TX12) (N := 42) hx hb hts iT_X12 hown hK hP 0 rfl rfl 7 (by decide) (hts _ tw_6_60) (fun _ h9 => h9) rfl dX12_next_210 ?_
              refine lv_bipush (v := 48) hx hb dX12_next_213 (by decide) ?_
              refine lv_bipush (v := 57) hx hb dX12_next_215 (by decide) ?_
              obtain ⟨hPc, hDc, hFc⟩ := sub3 hP hD hS hA (ws' := [(mo, .inr (12, [.int v0, .ref m1, .ref m2, .ref m3, .ref m4, .ref m5, .int v6, .int L0f0x7, .int 2, .int L0f0x7, .int 0, .long 0, .int v12, .int v13, .int v14, .int v15, .ref m16, .ref m17, .ref m18, .ref m19, .ref m20, .ref m21, .ref m22, .ref m23, .int v24, .ref m25, .ref m26, .ref m27, .ref m28, .ref m29, .int v30, .ref m31, .ref m32, .ref m33, .int v34, .int v35, .int v36, .ref m37, .ref m38, .ref m39, .ref m40, .long v41])), (m5, .inl (k 1, 1000, .inl f5))]) [0, 1] (by decide +kernel) rfl
              refine va_calli (va_runV (C := RX12) (As := [.int L0f0x7, .int 48, .int 57]) (rest := []) ⟨hx, hb, hml, hown, hts⟩ (c_X12_isByte l D k mo L0f0x7 48 57 v0 m1 m2 m3 m4 m5 v6 L0f0x7 2 L0f0x7 0 0 v12 v13 v14 v15 m16 m17 m18 m19 m20 m21 m22 m23 v24 m25 m26 m27 m28 m29 v30 m31 m32 m33 v34 v35 v36 m37 m38 m39 m40 v41 f5 H.size (show 0 ≤ L0f0x7.toInt ∧ L0f0x7.toInt ≤ 1000 from by omega) (show 0 ≤ v6.toInt ∧ v6.toInt ≤ 1000 from by omega) (show 0 ≤ v24.toInt ∧ v24.toInt ≤ 1023 from by omega)) (cwV 3 hts (gV tw_6_238 tw_7_0 tw_p_40 tw_1_13 tw_7_1) rfl rfl rfl hdV_X12_isByte ⟨Nat.le_of_ble_eq_true rfl, Nat.le_of_ble_eq_true rfl⟩) (cz_V hK hPc hDc hN (ci := 12) (q0 := 0) rfl rfl [.int L0f0x7, .int 48, .int 57]) rfl rfl hl.1 rfl (lv_room (Nat.le_of_ble_eq_true rfl)) dX12_next_217 ⟨Nat.le_of_ble_eq_true rfl, Nat.le_of_ble_eq_true rfl⟩) hS (fun q _ h => hFc q h) hFc (fun r_40 uZ tZ H1 locs ht hvm hw hB hz1 hk1 hS => ?_)
              obtain ⟨hP1, hK1, hD1⟩ := hB
              rw [ht] at hP1
              obtain ⟨hP, hD⟩ := va_join (wr := []) (w1 := [(mo, .inr (12, [.int v0, .ref m1, .ref m2, .ref m3, .ref m4, .ref m5, .int v6, .int L0f0x7, .int 2, .int L0f0x7, .int 0, .long 0, .int v12, .int v13, .int v14, .int v15, .ref m16, .ref m17, .ref m18, .ref m19, .ref m20, .ref m21, .ref m22, .ref m23, .int v24, .ref m25, .ref m26, .ref m27, .ref m28, .ref m29, .int v30, .ref m31, .ref m32, .ref m33, .int v34, .int v35, .int v36, .ref m37, .ref m38, .ref m39, .ref m40, .long v41])), (m5, .inl (k 1, 1000, .inl f5))]) hP hD [0, 1] [] rfl rfl (by decide +kernel) (by decide +kernel) hk1 hFc hP1 hD1
              clear hK1 hP1 hD1 hPc hDc hFc
              clear hk1 hz1 ht hvm
              have hP : va_P D vwCl [(mo, .inr (12, [.int v0, .ref m1, .ref m2, .ref m3, .ref m4, .ref m5, .int v6, .int L0f0x7, .int 2, .int L0f0x7, .int 0, .long 0, .int v12, .int v13, .int v14, .int v15, .ref m16, .ref m17, .ref m18, .ref m19, .ref m20, .ref m21, .ref m22, .ref m23, .int v24, .ref m25, .ref m26, .ref m27, .ref m28, .ref m29, .int v30, .ref m31, .ref m32, .ref m33, .int v34, .int v35, .int v36, .ref m37, .ref m38, .ref m39, .ref m40, .long v41])), (m5, .inl (k 1, 1000, .inl f5))] H1 := hP
              have hD : va_D A [(mo, .inr (12, [.int v0, .ref m1, .ref m2, .ref m3, .ref m4, .ref m5, .int v6, .int L0f0x7, .int 2, .int L0f0x7, .int 0, .long 0, .int v12, .int v13, .int v14, .int v15, .ref m16, .ref m17, .ref m18, .ref m19, .ref m20, .ref m21, .ref m22, .ref m23, .int v24, .ref m25, .ref m26, .ref m27, .ref m28, .ref m29, .int v30, .ref m31, .ref m32, .ref m33, .int v34, .int v35, .int v36, .ref m37, .ref m38, .ref m39, .ref m40, .long v41])), (m5, .inl (k 1, 1000, .inl f5))] := hD
              generalize H1 = H at hP hS ⊢
              have hw_41 : (0 ≤ r_40.toInt ∧ r_40.toInt ≤ 1) ∧ (r_40 = isByteOf f5 v6 L0f0x7 48 57) ∧ ((r_40.toInt = 1 ∧ L0f0x7.toInt < v6.toInt) ∨ r_40.toInt = 0) := hw
              obtain ⟨hw_42, hw_43, hw_44⟩ := hw_41
              clear hw
              obtain rfl : r_30 = r_40 := hw_33.trans hw_43.symm
              refine lv_if_eq (tgt := 307) hx hb dX12_next_220 (by decide) (fun h_45 => ?_) (fun h_45 => ?_)
              · skip
                have zh_45 : r_30.toInt = 0 := z_eq h_45
                exact False.elim (by omega)
              · skip
                have zh_45 : ¬ r_30.toInt = 0 := z_ne h_45
                refine lv_aload_n hx hb dX12_next_223 rfl (lv_at hl 0 rfl) ?_
                refine lv_aload_n hx hb dX12_next_224 rfl (lv_at hl 0 rfl) ?_
                refine va_get (D := D) (ci := 12) (v := .int 0) (C := RX12) (T := TX12) (N := 42) hx hb hts iT_X12 hown hK hP 0 rfl rfl 10 (by decide) (hts _ tw_6_63) (fun _ h9 => h9) rfl dX12_next_225 ?_
                refine lv_ldc (v := 100000) hx hb hown (hts _ tw_7_5) dX12_next_228 ?_
                refine lv_icmp_le (tgt := 238) hx hb dX12_next_230 (by decide) (fun _ => ?_) (fun c9 => absurd c9 (by decide))
                refine lv_bipush (v := 10) hx hb dX12_next_238 (by decide) ?_
                refine lv_aload_n hx hb dX12_next_240 rfl (lv_at hl 0 rfl) ?_
                refine va_get (D := D) (ci := 12) (v := .int 0) (C := RX12) (T := TX12) (N := 42) hx hb hts iT_X12 hown hK hP 0 rfl rfl 10 (by decide) (hts _ tw_6_63) (fun _ h9 => h9) rfl dX12_next_241 ?_
                refine lv_imul hx hb dX12_next_244 ?_
                refine lv_topi (fun x_46 ex_46 => ?_)
                obtain rfl : x_46 = 0 := ex_46.trans (by decide)
                refine lv_aload_n hx hb dX12_next_245 rfl (lv_at hl 0 rfl) ?_
                refine va_get (D := D) (ci := 12) (v := .ref m5) (C := RX12) (T := TX12) (N := 42) hx hb hts iT_X12 hown hK hP 0 rfl rfl 5 (by decide) (hts _ tw_6_58) (fun _ h9 => h9) rfl dX12_next_246 ?_
                refine lv_aload_n hx hb dX12_next_249 rfl (lv_at hl 0 rfl) ?_
                refine va_get (D := D) (ci := 12) (v := .int L0f0x7) (C := RX12) (T := TX12) (N := 42) hx hb hts iT_X12 hown hK hP 0 rfl rfl 7 (by decide) (hts _ tw_6_60) (fun _ h9 => h9) rfl dX12_next_250 ?_
                refine va_bald hx hb hK hP 1 1 rfl rfl (z_in (by omega) (by omega)) dX12_next_253 ?_
                refine lv_topi (fun x_47 ex_47 => ?_)
                refine lv_iadd hx hb dX12_next_254 ?_
                refine lv_topi (fun x_48 ex_48 => ?_)
                have zrx_47 := z_rng x_47
                have zx_48 : x_48.toInt = 0 + x_47.toInt := by rw [ex_48]; exact z_add rfl rfl (by omega) (by omega)
                refine lv_bipush (v := 48) hx hb dX12_next_255 (by decide) ?_
                refine lv_isub hx hb dX12_next_257 ?_
                refine lv_topi (fun x_49 ex_49 => ?_)
                have zrx_48 := z_rng x_48
                refine va_put (D := D) (ci := 12) (v := .int x_49) (ty := tyX12 10) (C := RX12) (T := TX12) (N := 42) hx hb hts iT_X12 tyX12 tyX12_ok nmX12 hown hK hP hD hS 0 rfl rfl 10 (by decide) (hts _ tw_6_63) (fun _ h9 => h9) rfl (tyX12_ok 10 (by decide)) rfl rfl (Nat.le_of_ble_eq_true rfl) dX12_next_258 (fun H locs hP hD hS => ?_)
                have hP : va_P D vwCl [(mo, .inr (12, [.int v0, .ref m1, .ref m2, .ref m3, .ref m4, .ref m5, .int v6, .int L0f0x7, .int 2, .int L0f0x7, .int x_49, .long 0, .int v12, .int v13, .int v14, .int v15, .ref m16, .ref m17, .ref m18, .ref m19, .ref m20, .ref m21, .ref m22, .ref m23, .int v24, .ref m25, .ref m26, .ref m27, .ref m28, .ref m29, .int v30, .ref m31, .ref m32, .ref m33, .int v34, .int v35, .int v36, .ref m37, .ref m38, .ref m39, .ref m40, .long v41])), (m5, .inl (k 1, 1000, .inl f5))] H := hP
                have hD : va_D A [(mo, .inr (12, [.int v0, .ref m1, .ref m2, .ref m3, .ref m4, .ref m5, .int v6, .int L0f0x7, .int 2, .int L0f0x7, .int x_49, .long 0, .int v12, .int v13, .int v14, .int v15, .ref m16, .ref m17, .ref m18, .ref m19, .ref m20, .ref m21, .ref m22, .ref m23, .int v24, .ref m25, .ref m26, .ref m27, .ref m28, .ref m29, .int v30, .ref m31, .ref m32, .ref m33, .int v34, .int v35, .int v36, .ref m37, .ref m38, .ref m39, .ref m40, .long v41])), (m5, .inl (k 1, 1000, .inl f5))] := hD
                refine lv_aload_n hx hb dX12_next_261 rfl (lv_at hl 0 rfl) ?_
                refine lv_dup hx hb dX12_next_262 rfl ?_
                refine va_get (D := D) (ci := 12) (v := .int L0f0x7) (C := RX12) (T := TX12) (N := 42) hx hb hts iT_X12 hown hK hP 0 rfl rfl 7 (by decide) (hts _ tw_6_60) (fun _ h9 => h9) rfl dX12_next_263 ?_
                refine lv_iconst (v := 1) hx hb dX12_next_266 (by decide) ?_
                refine lv_iadd hx hb dX12_next_267 ?_
                refine lv_topi (fun x_50 ex_50 => ?_)
                have zx_50 : x_50.toInt = L0f0x7.toInt + 1 := by rw [ex_50]; exact z_add rfl rfl (by omega) (by omega)
                refine va_put (D := D) (ci := 12) (v := .int x_50) (ty := tyX12 7) (C := RX12) (T := TX12) (N := 42) hx hb hts iT_X12 tyX12 tyX12_ok nmX12 hown hK hP hD hS 0 rfl rfl 7 (by decide) (hts _ tw_6_60) (fun _ h9 => h9) rfl (tyX12_ok 7 (by decide)) rfl rfl (Nat.le_of_ble_eq_true rfl) dX12_next_268 (fun H locs hP hD hS => ?_)
                have hP : va_P D vwCl [(mo, .inr (12, [.int v0, .ref m1, .ref m2, .ref m3, .ref m4, .ref m5, .int v6, .int x_50, .int 2, .int L0f0x7, .int x_49, .long 0, .int v12, .int v13, .int v14, .int v15, .ref m16, .ref m17, .ref m18, .ref m19, .ref m20, .ref m21, .ref m22, .ref m23, .int v24, .ref m25, .ref m26, .ref m27, .ref m28, .ref m29, .int v30, .ref m31, .ref m32, .ref m33, .int v34, .int v35, .int v36, .ref m37, .ref m38, .ref m39, .ref m40, .long v41])), (m5, .inl (k 1, 1000, .inl f5))] H := hP
                have hD : va_D A [(mo, .inr (12, [.int v0, .ref m1, .ref m2, .ref m3, .ref m4, .ref m5, .int v6, .int x_50, .int 2, .int L0f0x7, .int x_49, .long 0, .int v12, .int v13, .int v14, .int v15, .ref m16, .ref m17, .ref m18, .ref m19, .ref m20, .ref m21, .ref m22, .ref m23, .int v24, .ref m25, .ref m26, .ref m27, .ref m28, .ref m29, .int v30, .ref m31, .ref m32, .ref m33, .int v34, .int v35, .int v36, .ref m37, .ref m38, .ref m39, .ref m40, .long v41])), (m5, .inl (k 1, 1000, .inl f5))] := hD
                refine lv_goto (tgt := 208) hx hb dX12_next_271 (by decide) ?_
                refine loop_r (Wg := fun H locs ls => W p l e _ s m _ below meth c H locs _ _ _ (F0 m 208 ls [])) (fun n9 H locs ls => ∃ (L208f0x7 : Int32) (L208f0x10 : Int32), n9 = (1000 - L208f0x7.toInt).toNat ∧ (2 ≤ L208f0x7.toInt ∧ L208f0x7.toInt ≤ 1000) ∧ (L208f0x7.toInt ≤ v6.toInt) ∧ (v7.toInt < L208f0x7.toInt) ∧ va_P D vwCl [(mo, .inr (12, [.int v0, .ref m1, .ref m2, .ref m3, .ref m4, .ref m5, .int v6, .int L208f0x7, .int 2, .int L0f0x7, .int L208f0x10, .long 0, .int v12, .int v13, .int v14, .int v15, .ref m16, .ref m17, .ref m18, .ref m19, .ref m20, .ref m21, .ref m22, .ref m23, .int v24, .ref m25, .ref m26, .ref m27, .ref m28, .ref m29, .int v30, .ref m31, .ref m32, .ref m33, .int v34, .int v35, .int v36, .ref m37, .ref m38, .ref m39, .ref m40, .long v41])), (m5, .inl (k 1, 1000, .inl f5))] H ∧ va_D A [(mo, .inr (12, [.int v0, .ref m1, .ref m2, .ref m3, .ref m4, .ref m5, .int v6, .int L208f0x7, .int 2, .int L0f0x7, .int L208f0x10, .long 0, .int v12, .int v13, .int v14, .int v15, .ref m16, .ref m17, .ref m18, .ref m19, .ref m20, .ref m21, .ref m22, .ref m23, .int v24, .ref m25, .ref m26, .ref m27, .ref m28, .ref m29, .int v30, .ref m31, .ref m32, .ref m33, .int v34, .int v35, .int v36, .ref m37, .ref m38, .ref m39, .ref m40, .long v41])), (m5, .inl (k 1, 1000, .inl f5))] ∧ va_S A s.heap H locs ∧ lv_has ls 2 [(0, .ref mo)]) (fun n9 H locs ls hI ih_51 => ?_) _ _ _ _ ⟨x_50, x_49, rfl, (show 2 ≤ x_50.toInt ∧ x_50.toInt ≤ 1000 from by omega), (show x_50.toInt ≤ v6.toInt from by omega), (show v7.toInt < x_50.toInt from by omega), hP.sub (ws' := [(mo, .inr (12, [.int v0, .ref m1, .ref m2, .ref m3, .ref m4, .ref m5, .int v6, .int x_50, .int 2, .int L0f0x7, .int x_49, .long 0, .int v12, .int v13, .int v14, .int v15, .ref m16, .ref m17, .ref m18, .ref m19, .ref m20, .ref m21, .ref m22, .ref m23, .int v24, .ref m25, .ref m26, .ref m27, .ref m28, .ref m29, .int v30, .ref m31, .ref m32, .ref m33, .int v34, .int v35, .int v36, .ref m37, .ref m38, .ref m39, .ref m40, .long v41])), (m5, .inl (k 1, 1000, .inl f5))]) [0, 1] rfl, hD.sub (ws' := [(mo, .inr (12, [.int v0, .ref m1, .ref m2, .ref m3, .ref m4, .ref m5, .int v6, .int x_50, .int 2, .int L0f0x7, .int x_49, .long 0, .int v12, .int v13, .int v14, .int v15, .ref m16, .ref m17, .ref m18, .ref m19, .ref m20, .ref m21, .ref m22, .ref m23, .int v24, .ref m25, .ref m26, .ref m27, .ref m28, .ref m29, .int v30, .ref m31, .ref m32, .ref m33, .int v34, .int v35, .int v36, .ref m37, .ref m38, .ref m39, .ref m40, .long v41])), (m5, .inl (k 1, 1000, .inl f5))]) [0, 1] (by decide +kernel) rfl, hS, lv_sub hl [0] rfl⟩
                clear hP hD hS hl
                obtain ⟨L208f0x7, L208f0x10, en_52, zL208f0x7, hi208x0, hi208x1, hP, hD, hS, hl⟩ := hI
                refine lv_aload_n hx hb dX12_next_208 rfl (lv_at hl 0 rfl) ?_
                refine lv_aload_n hx hb dX12_next_209 rfl (lv_at hl 0 rfl) ?_
                refine va_get (D := D) (ci := 12) (v := .int L208f0x7) (C := RX12) (T := TX12) (N := 42) hx hb hts iT_X12 hown hK hP 0 rfl rfl 7 (by decide) (hts _ tw_6_60) (fun _ h9 => h9) rfl dX12_next_210 ?_
                refine lv_bipush (v := 48) hx hb dX12_next_213 (by decide) ?_
                refine lv_bipush (v := 57) hx hb dX12_next_215 (by decide) ?_
                obtain ⟨hPc, hDc, hFc⟩ := sub3 hP hD hS hA (ws' := [(mo, .inr (12, [.int v0, .ref m1, .ref m2, .ref m3, .ref m4, .ref m5, .int v6, .int L208f0x7, .int 2, .int L0f0x7, .int L208f0x10, .long 0, .int v12, .int v13, .int v14, .int v15, .ref m16, .ref m17, .ref m18, .ref m19, .ref m20, .ref m21, .ref m22, .ref m23, .int v24, .ref m25, .ref m26, .ref m27, .ref m28, .ref m29, .int v30, .ref m31, .ref m32, .ref m33, .int v34, .int v35, .int v36, .ref m37, .ref m38, .ref m39, .ref m40, .long v41])), (m5, .inl (k 1, 1000, .inl f5))]) [0, 1] (by decide +kernel) rfl
                refine va_calli (va_runV (C := RX12) (As := [.int L208f0x7, .int 48, .int 57]) (rest := []) ⟨hx, hb, hml, hown, hts⟩ (c_X12_isByte l D k mo L208f0x7 48 57 v0 m1 m2 m3 m4 m5 v6 L208f0x7 2 L0f0x7 L208f0x10 0 v12 v13 v14 v15 m16 m17 m18 m19 m20 m21 m22 m23 v24 m25 m26 m27 m28 m29 v30 m31 m32 m33 v34 v35 v36 m37 m38 m39 m40 v41 f5 H.size (show 0 ≤ L208f0x7.toInt ∧ L208f0x7.toInt ≤ 1000 from by omega) (show 0 ≤ v6.toInt ∧ v6.toInt ≤ 1000 from by omega) (show 0 ≤ v24.toInt ∧ v24.toInt ≤ 1023 from by omega)) (cwV 3 hts (gV tw_6_238 tw_7_0 tw_p_40 tw_1_13 tw_7_1) rfl rfl rfl hdV_X12_isByte ⟨Nat.le_of_ble_eq_true rfl, Nat.le_of_ble_eq_true rfl⟩) (cz_V hK hPc hDc hN (ci := 12) (q0 := 0) rfl rfl [.int L208f0x7, .int 48, .int 57]) rfl rfl hl.1 rfl (lv_room (Nat.le_of_ble_eq_true rfl)) dX12_next_217 ⟨Nat.le_of_ble_eq_true rfl, Nat.le_of_ble_eq_true rfl⟩) hS (fun q _ h => hFc q h) hFc (fun r_53 uZ tZ H1 locs ht hvm hw hB hz1 hk1 hS => ?_)
                obtain ⟨hP1, hK1, hD1⟩ := hB
                rw [ht] at hP1
                obtain ⟨hP, hD⟩ := va_join (wr := []) (w1 := [(mo, .inr (12, [.int v0, .ref m1, .ref m2, .ref m3, .ref m4, .ref m5, .int v6, .int L208f0x7, .int 2, .int L0f0x7, .int L208f0x10, .long 0, .int v12, .int v13, .int v14, .int v15, .ref m16, .ref m17, .ref m18, .ref m19, .ref m20, .ref m21, .ref m22, .ref m23, .int v24, .ref m25, .ref m26, .ref m27, .ref m28, .ref m29, .int v30, .ref m31, .ref m32, .ref m33, .int v34, .int v35, .int v36, .ref m37, .ref m38, .ref m39, .ref m40, .long v41])), (m5, .inl (k 1, 1000, .inl f5))]) hP hD [0, 1] [] rfl rfl (by decide +kernel) (by decide +kernel) hk1 hFc hP1 hD1
                clear hK1 hP1 hD1 hPc hDc hFc
                clear hk1 hz1 ht hvm
                have hP : va_P D vwCl [(mo, .inr (12, [.int v0, .ref m1, .ref m2, .ref m3, .ref m4, .ref m5, .int v6, .int L208f0x7, .int 2, .int L0f0x7, .int L208f0x10, .long 0, .int v12, .int v13, .int v14, .int v15, .ref m16, .ref m17, .ref m18, .ref m19, .ref m20, .ref m21, .ref m22, .ref m23, .int v24, .ref m25, .ref m26, .ref m27, .ref m28, .ref m29, .int v30, .ref m31, .ref m32, .ref m33, .int v34, .int v35, .int v36, .ref m37, .ref m38, .ref m39, .ref m40, .long v41])), (m5, .inl (k 1, 1000, .inl f5))] H1 := hP
                have hD : va_D A [(mo, .inr (12, [.int v0, .ref m1, .ref m2, .ref m3, .ref m4, .ref m5, .int v6, .int L208f0x7, .int 2, .int L0f0x7, .int L208f0x10, .long 0, .int v12, .int v13, .int v14, .int v15, .ref m16, .ref m17, .ref m18, .ref m19, .ref m20, .ref m21, .ref m22, .ref m23, .int v24, .ref m25, .ref m26, .ref m27, .ref m28, .ref m29, .int v30, .ref m31, .ref m32, .ref m33, .int v34, .int v35, .int v36, .ref m37, .ref m38, .ref m39, .ref m40, .long v41])), (m5, .inl (k 1, 1000, .inl f5))] := hD
                generalize H1 = H at hP hS ⊢
                have hw_54 : (0 ≤ r_53.toInt ∧ r_53.toInt ≤ 1) ∧ (r_53 = isByteOf f5 v6 L208f0x7 48 57) ∧ ((r_53.toInt = 1 ∧ L208f0x7.toInt < v6.toInt) ∨ r_53.toInt = 0) := hw
                obtain ⟨hw_55, hw_56, hw_57⟩ := hw_54
                clear hw
                refine lv_if_eq (tgt := 307) hx hb dX12_next_220 (by decide) (fun h_58 => ?_) (fun h_58 => ?_)
                · skip
                  have zh_58 : r_53.toInt = 0 := z_eq h_58
                  obtain ⟨hP9, hD9⟩ := sub2 hP hD (ws' := [(mo, .inr (12, [.int v0, .ref m1, .ref m2, .ref m3, .ref m4, .ref m5, .int v6, .int L208f0x7, .int 2, .int L0f0x7, .int L208f0x10, .long 0, .int v12, .int v13, .int v14, .int v15, .ref m16, .ref m17, .ref m18, .ref m19, .ref m20, .ref m21, .ref m22, .ref m23, .int v24, .ref m25, .ref m26, .ref m27, .ref m28, .ref m29, .int v30, .ref m31, .ref m32, .ref m33, .int v34, .int v35, .int v36, .ref m37, .ref m38, .ref m39, .ref m40, .long v41])), (m5, .inl (k 1, 1000, .inl f5))]) [0, 1] (by decide +kernel) rfl
                  exact W.vret hx hb hr (fun tZ ht hW => ⟨⟨(L208f0x7, 2, L0f0x7, L208f0x10, 0), rfl, ⟨(show 0 ≤ L208f0x7.toInt ∧ L208f0x7.toInt ≤ 1000 from by omega), (show 0 ≤ 2 ∧ 2 ≤ 4 from by omega), (show 0 ≤ L0f0x7.toInt ∧ L0f0x7.toInt ≤ 1000 from by omega), (show v7.toInt ≤ L208f0x7.toInt ∧ L208f0x7.toInt ≤ v6.toInt from by omega), (show 2 = 0 ∨ v7.toInt < L208f0x7.toInt from by omega)⟩, by rw [ht]; exact hP9, va_K.moved hW.alike hK, hD9⟩, hS.F ht⟩) hS.2.2 dX12_next_307
                · skip
                  have zh_58 : ¬ r_53.toInt = 0 := z_ne h_58
                  refine lv_aload_n hx hb dX12_next_223 rfl (lv_at hl 0 rfl) ?_
                  refine lv_aload_n hx hb dX12_next_224 rfl (lv_at hl 0 rfl) ?_
                  refine va_get (D := D) (ci := 12) (v := .int L208f0x10) (C := RX12) (T := TX12) (N := 42) hx hb hts iT_X12 hown hK hP 0 rfl rfl 10 (by decide) (hts _ tw_6_63) (fun _ h9 => h9) rfl dX12_next_225 ?_
                  refine lv_ldc (v := 100000) hx hb hown (hts _ tw_7_5) dX12_next_228 ?_
                  refine lv_icmp_le (tgt := 238) hx hb dX12_next_230 (by decide) (fun h_59 => ?_) (fun h_59 => ?_)
                  · skip
                    have zh_59 : L208f0x10.toInt ≤ 100000 := z_le h_59
                    refine lv_bipush (v := 10) hx hb dX12_next_238 (by decide) ?_
                    refine lv_aload_n hx hb dX12_next_240 rfl (lv_at hl 0 rfl) ?_
                    refine va_get (D := D) (ci := 12) (v := .int L208f0x10) (C := RX12) (T := TX12) (N := 42) hx hb hts iT_X12 hown hK hP 0 rfl rfl 10 (by decide) (hts _ tw_6_63) (fun _ h9 => h9) rfl dX12_next_241 ?_
                    refine lv_imul hx hb dX12_next_244 ?_
                    refine lv_topi (fun x_60 ex_60 => ?_)
                    have zrL208f0x10 := z_rng L208f0x10
                    refine lv_aload_n hx hb dX12_next_245 rfl (lv_at hl 0 rfl) ?_
                    refine va_get (D := D) (ci := 12) (v := .ref m5) (C := RX12) (T := TX12) (N := 42) hx hb hts iT_X12 hown hK hP 0 rfl rfl 5 (by decide) (hts _ tw_6_58) (fun _ h9 => h9) rfl dX12_next_246 ?_
                    refine lv_aload_n hx hb dX12_next_249 rfl (lv_at hl 0 rfl) ?_
                    refine va_get (D := D) (ci := 12) (v := .int L208f0x7) (C := RX12) (T := TX12) (N := 42) hx hb hts iT_X12 hown hK hP 0 rfl rfl 7 (by decide) (hts _ tw_6_60) (fun _ h9 => h9) rfl dX12_next_250 ?_
                    refine va_bald hx hb hK hP 1 1 rfl rfl (z_in (by omega) (by omega)) dX12_next_253 ?_
                    refine lv_topi (fun x_61 ex_61 => ?_)
                    refine lv_iadd hx hb dX12_next_254 ?_
                    refine lv_topi (fun x_62 ex_62 => ?_)
                    have zrx_60 := z_rng x_60
                    have zrx_61 := z_rng x_61
                    refine lv_bipush (v := 48) hx hb dX12_next_255 (by decide) ?_
                    refine lv_isub hx hb dX12_next_257 ?_
                    refine lv_topi (fun x_63 ex_63 => ?_)
                    have zrx_62 := z_rng x_62
                    refine va_put (D := D) (ci := 12) (v := .int x_63) (ty := tyX12 10) (C := RX12) (T := TX12) (N := 42) hx hb hts iT_X12 tyX12 tyX12_ok nmX12 hown hK hP hD hS 0 rfl rfl 10 (by decide) (hts _ tw_6_63) (fun _ h9 => h9) rfl (tyX12_ok 10 (by decide)) rfl rfl (Nat.le_of_ble_eq_true rfl) dX12_next_258 (fun H locs hP hD hS => ?_)
                    have hP : va_P D vwCl [(mo, .inr (12, [.int v0, .ref m1, .ref m2, .ref m3, .ref m4, .ref m5, .int v6, .int L208f0x7, .int 2, .int L0f0x7, .int x_63, .long 0, .int v12, .int v13, .int v14, .int v15, .ref m16, .ref m17, .ref m18, .ref m19, .ref m20, .ref m21, .ref m22, .ref m23, .int v24, .ref m25, .ref m26, .ref m27, .ref m28, .ref m29, .int v30, .ref m31, .ref m32, .ref m33, .int v34, .int v35, .int v36, .ref m37, .ref m38, .ref m39, .ref m40, .long v41])), (m5, .inl (k 1, 1000, .inl f5))] H := hP
                    have hD : va_D A [(mo, .inr (12, [.int v0, .ref m1, .ref m2, .ref m3, .ref m4, .ref m5, .int v6, .int L208f0x7, .int 2, .int L0f0x7, .int x_63, .long 0, .int v12, .int v13, .int v14, .int v15, .ref m16, .ref m17, .ref m18, .ref m19, .ref m20, .ref m21, .ref m22, .ref m23, .int v24, .ref m25, .ref m26, .ref m27, .ref m28, .ref m29, .int v30, .ref m31, .ref m32, .ref m33, .int v34, .int v35, .int v36, .ref m37, .ref m38, .ref m39, .ref m40, .long v41])), (m5, .inl (k 1, 1000, .inl f5))] := hD
                    refine lv_aload_n hx hb dX12_next_261 rfl (lv_at hl 0 rfl) ?_
                    refine lv_dup hx hb dX12_next_262 rfl ?_
                    refine va_get (D := D) (ci := 12) (v := .int L208f0x7) (C := RX12) (T := TX12) (N := 42) hx hb hts iT_X12 hown hK hP 0 rfl rfl 7 (by decide) (hts _ tw_6_60) (fun _ h9 => h9) rfl dX12_next_263 ?_
                    refine lv_iconst (v := 1) hx hb dX12_next_266 (by decide) ?_
                    refine lv_iadd hx hb dX12_next_267 ?_
                    refine lv_topi (fun x_64 ex_64 => ?_)
                    have zx_64 : x_64.toInt = L208f0x7.toInt + 1 := by rw [ex_64]; exact z_add rfl rfl (by omega) (by omega)
                    refine va_put (D := D) (ci := 12) (v := .int x_64) (ty := tyX12 7) (C := RX12) (T := TX12) (N := 42) hx hb hts iT_X12 tyX12 tyX12_ok nmX12 hown hK hP hD hS 0 rfl rfl 7 (by decide) (hts _ tw_6_60) (fun _ h9 => h9) rfl (tyX12_ok 7 (by decide)) rfl rfl (Nat.le_of_ble_eq_true rfl) dX12_next_268 (fun H locs hP hD hS => ?_)
                    have hP : va_P D vwCl [(mo, .inr (12, [.int v0, .ref m1, .ref m2, .ref m3, .ref m4, .ref m5, .int v6, .int x_64, .int 2, .int L0f0x7, .int x_63, .long 0, .int v12, .int v13, .int v14, .int v15, .ref m16, .ref m17, .ref m18, .ref m19, .ref m20, .ref m21, .ref m22, .ref m23, .int v24, .ref m25, .ref m26, .ref m27, .ref m28, .ref m29, .int v30, .ref m31, .ref m32, .ref m33, .int v34, .int v35, .int v36, .ref m37, .ref m38, .ref m39, .ref m40, .long v41])), (m5, .inl (k 1, 1000, .inl f5))] H := hP
                    have hD : va_D A [(mo, .inr (12, [.int v0, .ref m1, .ref m2, .ref m3, .ref m4, .ref m5, .int v6, .int x_64, .int 2, .int L0f0x7, .int x_63, .long 0, .int v12, .int v13, .int v14, .int v15, .ref m16, .ref m17, .ref m18, .ref m19, .ref m20, .ref m21, .ref m22, .ref m23, .int v24, .ref m25, .ref m26, .ref m27, .ref m28, .ref m29, .int v30, .ref m31, .ref m32, .ref m33, .int v34, .int v35, .int v36, .ref m37, .ref m38, .ref m39, .ref m40, .long v41])), (m5, .inl (k 1, 1000, .inl f5))] := hD
                    refine lv_goto (tgt := 208) hx hb dX12_next_271 (by decide) ?_
                    exact ih_51 _ _ _ _ (by omega) ⟨x_64, x_63, rfl, (show 2 ≤ x_64.toInt ∧ x_64.toInt ≤ 1000 from by omega), (show x_64.toInt ≤ v6.toInt from by omega), (show v7.toInt < x_64.toInt from by omega), hP.sub (ws' := [(mo, .inr (12, [.int v0, .ref m1, .ref m2, .ref m3, .ref m4, .ref m5, .int v6, .int x_64, .int 2, .int L0f0x7, .int x_63, .long 0, .int v12, .int v13, .int v14, .int v15, .ref m16, .ref m17, .ref m18, .ref m19, .ref m20, .ref m21, .ref m22, .ref m23, .int v24, .ref m25, .ref m26, .ref m27, .ref m28, .ref m29, .int v30, .ref m31, .ref m32, .ref m33, .int v34, .int v35, .int v36, .ref m37, .ref m38, .ref m39, .ref m40, .long v41])), (m5, .inl (k 1, 1000, .inl f5))]) [0, 1] rfl, hD.sub (ws' := [(mo, .inr (12, [.int v0, .ref m1, .ref m2, .ref m3, .ref m4, .ref m5, .int v6, .int x_64, .int 2, .int L0f0x7, .int x_63, .long 0, .int v12, .int v13, .int v14, .int v15, .ref m16, .ref m17, .ref m18, .ref m19, .ref m20, .ref m21, .ref m22, .ref m23, .int v24, .ref m25, .ref m26, .ref m27, .ref m28, .ref m29, .int v30, .ref m31, .ref m32, .ref m33, .int v34, .int v35, .int v36, .ref m37, .ref m38, .ref m39, .ref m40, .long v41])), (m5, .inl (k 1, 1000, .inl f5))]) [0, 1] (by decide +kernel) rfl, hS, lv_sub hl [0] rfl⟩
                  · skip
                    have zh_59 : 100000 < L208f0x10.toInt := z_nle h_59
                    refine lv_ldc (v := 1000000) hx hb hown (hts _ tw_7_6) dX12_next_233 ?_
                    refine lv_goto (tgt := 258) hx hb dX12_next_235 (by decide) ?_
                    refine va_put (D := D) (ci := 12) (v := .int 1000000) (ty := tyX12 10) (C := RX12) (T := TX12) (N := 42) hx hb hts iT_X12 tyX12 tyX12_ok nmX12 hown hK hP hD hS 0 rfl rfl 10 (by decide) (hts _ tw_6_63) (fun _ h9 => h9) rfl (tyX12_ok 10 (by decide)) rfl rfl (Nat.le_of_ble_eq_true rfl) dX12_next_258 (fun H locs hP hD hS => ?_)
                    have hP : va_P D vwCl [(mo, .inr (12, [.int v0, .ref m1, .ref m2, .ref m3, .ref m4, .ref m5, .int v6, .int L208f0x7, .int 2, .int L0f0x7, .int 1000000, .long 0, .int v12, .int v13, .int v14, .int v15, .ref m16, .ref m17, .ref m18, .ref m19, .ref m20, .ref m21, .ref m22, .ref m23, .int v24, .ref m25, .ref m26, .ref m27, .ref m28, .ref m29, .int v30, .ref m31, .ref m32, .ref m33, .int v34, .int v35, .int v36, .ref m37, .ref m38, .ref m39, .ref m40, .long v41])), (m5, .inl (k 1, 1000, .inl f5))] H := hP
                    have hD : va_D A [(mo, .inr (12, [.int v0, .ref m1, .ref m2, .ref m3, .ref m4, .ref m5, .int v6, .int L208f0x7, .int 2, .int L0f0x7, .int 1000000, .long 0, .int v12, .int v13, .int v14, .int v15, .ref m16, .ref m17, .ref m18, .ref m19, .ref m20, .ref m21, .ref m22, .ref m23, .int v24, .ref m25, .ref m26, .ref m27, .ref m28, .ref m29, .int v30, .ref m31, .ref m32, .ref m33, .int v34, .int v35, .int v36, .ref m37, .ref m38, .ref m39, .ref m40, .long v41])), (m5, .inl (k 1, 1000, .inl f5))] := hD
                    refine lv_aload_n hx hb dX12_next_261 rfl (lv_at hl 0 rfl) ?_
                    refine lv_dup hx hb dX12_next_262 rfl ?_
                    refine va_get (D := D) (ci := 12) (v := .int L208f0x7) (C := RX12) (T := TX12) (N := 42) hx hb hts iT_X12 hown hK hP 0 rfl rfl 7 (by decide) (hts _ tw_6_60) (fun _ h9 => h9) rfl dX12_next_263 ?_
                    refine lv_iconst (v := 1) hx hb dX12_next_266 (by decide) ?_
                    refine lv_iadd hx hb dX12_next_267 ?_
                    refine lv_topi (fun x_65 ex_65 => ?_)
                    have zx_65 : x_65.toInt = L208f0x7.toInt + 1 := by rw [ex_65]; exact z_add rfl rfl (by omega) (by omega)
                    refine va_put (D := D) (ci := 12) (v := .int x_65) (ty := tyX12 7) (C := RX12) (T := TX12) (N := 42) hx hb hts iT_X12 tyX12 tyX12_ok nmX12 hown hK hP hD hS 0 rfl rfl 7 (by decide) (hts _ tw_6_60) (fun _ h9 => h9) rfl (tyX12_ok 7 (by decide)) rfl rfl (Nat.le_of_ble_eq_true rfl) dX12_next_268 (fun H locs hP hD hS => ?_)
                    have hP : va_P D vwCl [(mo, .inr (12, [.int v0, .ref m1, .ref m2, .ref m3, .ref m4, .ref m5, .int v6, .int x_65, .int 2, .int L0f0x7, .int 1000000, .long 0, .int v12, .int v13, .int v14, .int v15, .ref m16, .ref m17, .ref m18, .ref m19, .ref m20, .ref m21, .ref m22, .ref m23, .int v24, .ref m25, .ref m26, .ref m27, .ref m28, .ref m29, .int v30, .ref m31, .ref m32, .ref m33, .int v34, .int v35, .int v36, .ref m37, .ref m38, .ref m39, .ref m40, .long v41])), (m5, .inl (k 1, 1000, .inl f5))] H := hP
                    have hD : va_D A [(mo, .inr (12, [.int v0, .ref m1, .ref m2, .ref m3, .ref m4, .ref m5, .int v6, .int x_65, .int 2, .int L0f0x7, .int 1000000, .long 0, .int v12, .int v13, .int v14, .int v15, .ref m16, .ref m17, .ref m18, .ref m19, .ref m20, .ref m21, .ref m22, .ref m23, .int v24, .ref m25, .ref m26, .ref m27, .ref m28, .ref m29, .int v30, .ref m31, .ref m32, .ref m33, .int v34, .int v35, .int v36, .ref m37, .ref m38, .ref m39, .ref m40, .long v41])), (m5, .inl (k 1, 1000, .inl f5))] := hD
                    refine lv_goto (tgt := 208) hx hb dX12_next_271 (by decide) ?_
                    exact ih_51 _ _ _ _ (by omega) ⟨x_65, 1000000, rfl, (show 2 ≤ x_65.toInt ∧ x_65.toInt ≤ 1000 from by omega), (show x_65.toInt ≤ v6.toInt from by omega), (show v7.toInt < x_65.toInt from by omega), hP.sub (ws' := [(mo, .inr (12, [.int v0, .ref m1, .ref m2, .ref m3, .ref m4, .ref m5, .int v6, .int x_65, .int 2, .int L0f0x7, .int 1000000, .long 0, .int v12, .int v13, .int v14, .int v15, .ref m16, .ref m17, .ref m18, .ref m19, .ref m20, .ref m21, .ref m22, .ref m23, .int v24, .ref m25, .ref m26, .ref m27, .ref m28, .ref m29, .int v30, .ref m31, .ref m32, .ref m33, .int v34, .int v35, .int v36, .ref m37, .ref m38, .ref m39, .ref m40, .long v41])), (m5, .inl (k 1, 1000, .inl f5))]) [0, 1] rfl, hD.sub (ws' := [(mo, .inr (12, [.int v0, .ref m1, .ref m2, .ref m3, .ref m4, .ref m5, .int v6, .int x_65, .int 2, .int L0f0x7, .int 1000000, .long 0, .int v12, .int v13, .int v14, .int v15, .ref m16, .ref m17, .ref m18, .ref m19, .ref m20, .ref m21, .ref m22, .ref m23, .int v24, .ref m25, .ref m26, .ref m27, .ref m28, .ref m29, .int v30, .ref m31, .ref m32, .ref m33, .int v34, .int v35, .int v36, .ref m37, .ref m38, .ref m39, .ref m40, .long v41])), (m5, .inl (k 1, 1000, .inl f5))]) [0, 1] (by decide +kernel) rfl, hS, lv_sub hl [0] rfl⟩
          · skip
            have zh_29 : ¬ r_24.toInt = 0 := z_ne h_29
            refine lv_aload_n hx hb dX12_next_95 rfl (lv_at hl 0 rfl) ?_
            refine lv_iconst (v := 1) hx hb dX12_next_96 (by decide) ?_
            refine va_put (D := D) (ci := 12) (v := .int 1) (ty := tyX12 8) (C := RX12) (T := TX12) (N := 42) hx hb hts iT_X12 tyX12 tyX12_ok nmX12 hown hK hP hD hS 0 rfl rfl 8 (by decide) (hts _ tw_6_61) (fun _ h9 => h9) rfl (tyX12_ok 8 (by decide)) rfl rfl (Nat.le_of_ble_eq_true rfl) dX12_next_97 (fun H locs hP hD hS => ?_)
            have hP : va_P D vwCl [(mo, .inr (12, [.int v0, .ref m1, .ref m2, .ref m3, .ref m4, .ref m5, .int v6, .int L0f0x7, .int 1, .int L0f0x7, .int 0, .long 0, .int v12, .int v13, .int v14, .int v15, .ref m16, .ref m17, .ref m18, .ref m19, .ref m20, .ref m21, .ref m22, .ref m23, .int v24, .ref m25, .ref m26, .ref m27, .ref m28, .ref m29, .int v30, .ref m31, .ref m32, .ref m33, .int v34, .int v35, .int v36, .ref m37, .ref m38, .ref m39, .ref m40, .long v41])), (m5, .inl (k 1, 1000, .inl f5))] H := hP
            have hD : va_D A [(mo, .inr (12, [.int v0, .ref m1, .ref m2, .ref m3, .ref m4, .ref m5, .int v6, .int L0f0x7, .int 1, .int L0f0x7, .int 0, .long 0, .int v12, .int v13, .int v14, .int v15, .ref m16, .ref m17, .ref m18, .ref m19, .ref m20, .ref m21, .ref m22, .ref m23, .int v24, .ref m25, .ref m26, .ref m27, .ref m28, .ref m29, .int v30, .ref m31, .ref m32, .ref m33, .int v34, .int v35, .int v36, .ref m37, .ref m38, .ref m39, .ref m40, .long v41])), (m5, .inl (k 1, 1000, .inl f5))] := hD
            refine lv_iconst (v := 0) hx hb dX12_next_100 (by decide) ?_
            refine lv_istore_n (lv' := [(1, .int 0), (0, .ref mo)]) hx hb dX12_next_101 rfl hl (by decide) rfl (fun ls hl => ?_)
            refine lv_aload_n hx hb dX12_next_102 rfl (lv_at hl 1 rfl) ?_
            refine lv_aload_n hx hb dX12_next_103 rfl (lv_at hl 1 rfl) ?_
            refine va_get (D := D) (ci := 12) (v := .int L0f0x7) (C := RX12) (T := TX12) (N := 42) hx hb hts iT_X12 hown hK hP 0 rfl rfl 7 (by decide) (hts _ tw_6_60) (fun _ h9 => h9) rfl dX12_next_104 ?_
            refine lv_bipush (v := 97) hx hb dX12_next_107 (by decide) ?_
            refine lv_bipush (v := 122) hx hb dX12_next_109 (by decide) ?_
            obtain ⟨hPc, hDc, hFc⟩ := sub3 hP hD hS hA (ws' := [(mo, .inr (12, [.int v0, .ref m1, .ref m2, .ref m3, .ref m4, .ref m5, .int v6, .int L0f0x7, .int 1, .int L0f0x7, .int 0, .long 0, .int v12, .int v13, .int v14, .int v15, .ref m16, .ref m17, .ref m18, .ref m19, .ref m20, .ref m21, .ref m22, .ref m23, .int v24, .ref m25, .ref m26, .ref m27, .ref m28, .ref m29, .int v30, .ref m31, .ref m32, .ref m33, .int v34, .int v35, .int v36, .ref m37, .ref m38, .ref m39, .ref m40, .long v41])), (m5, .inl (k 1, 1000, .inl f5))]) [0, 1] (by decide +kernel) rfl
            refine va_calli (va_runV (C := RX12) (As := [.int L0f0x7, .int 97, .int 122]) (rest := []) ⟨hx, hb, hml, hown, hts⟩ (c_X12_isByte l D k mo L0f0x7 97 122 v0 m1 m2 m3 m4 m5 v6 L0f0x7 1 L0f0x7 0 0 v12 v13 v14 v15 m16 m17 m18 m19 m20 m21 m22 m23 v24 m25 m26 m27 m28 m29 v30 m31 m32 m33 v34 v35 v36 m37 m38 m39 m40 v41 f5 H.size (show 0 ≤ L0f0x7.toInt ∧ L0f0x7.toInt ≤ 1000 from by omega) (show 0 ≤ v6.toInt ∧ v6.toInt ≤ 1000 from by omega) (show 0 ≤ v24.toInt ∧ v24.toInt ≤ 1023 from by omega)) (cwV 3 hts (gV tw_6_238 tw_7_0 tw_p_40 tw_1_13 tw_7_1) rfl rfl rfl hdV_X12_isByte ⟨Nat.le_of_ble_eq_true rfl, Nat.le_of_ble_eq_true rfl⟩) (cz_V hK hPc hDc hN (ci := 12) (q0 := 0) rfl rfl [.int L0f0x7, .int 97, .int 122]) rfl rfl hl.1 rfl (lv_room (Nat.le_of_ble_eq_true rfl)) dX12_next_111 ⟨Nat.le_of_ble_eq_true rfl, Nat.le_of_ble_eq_true rfl⟩) hS (fun q _ h => hFc q h) hFc (fun r_66 uZ tZ H1 locs ht hvm hw hB hz1 hk1 hS => ?_)
            obtain ⟨hP1, hK1, hD1⟩ := hB
            rw [ht] at hP1
            obtain ⟨hP, hD⟩ := va_join (wr := []) (w1 := [(mo, .inr (12, [.int v0, .ref m1, .ref m2, .ref m3, .ref m4, .ref m5, .int v6, .int L0f0x7, .int 1, .int L0f0x7, .int 0, .long 0, .int v12, .int v13, .int v14, .int v15, .ref m16, .ref m17, .ref m18, .ref m19, .ref m20, .ref m21, .ref m22, .ref m23, .int v24, .ref m25, .ref m26, .ref m27, .ref m28, .ref m29, .int v30, .ref m31, .ref m32, .ref m33, .int v34, .int v35, .int v36, .ref m37, .ref m38, .ref m39, .ref m40, .long v41])), (m5, .inl (k 1, 1000, .inl f5))]) hP hD [0, 1] [] rfl rfl (by decide +kernel) (by decide +kernel) hk1 hFc hP1 hD1
            clear hK1 hP1 hD1 hPc hDc hFc
            clear hk1 hz1 ht hvm
            have hP : va_P D vwCl [(mo, .inr (12, [.int v0, .ref m1, .ref m2, .ref m3, .ref m4, .ref m5, .int v6, .int L0f0x7, .int 1, .int L0f0x7, .int 0, .long 0, .int v12, .int v13, .int v14, .int v15, .ref m16, .ref m17, .ref m18, .ref m19, .ref m20, .ref m21, .ref m22, .ref m23, .int v24, .ref m25, .ref m26, .ref m27, .ref m28, .ref m29, .int v30, .ref m31, .ref m32, .ref m33, .int v34, .int v35, .int v36, .ref m37, .ref m38, .ref m39, .ref m40, .long v41])), (m5, .inl (k 1, 1000, .inl f5))] H1 := hP
            have hD : va_D A [(mo, .inr (12, [.int v0, .ref m1, .ref m2, .ref m3, .ref m4, .ref m5, .int v6, .int L0f0x7, .int 1, .int L0f0x7, .int 0, .long 0, .int v12, .int v13, .int v14, .int v15, .ref m16, .ref m17, .ref m18, .ref m19, .ref m20, .ref m21, .ref m22, .ref m23, .int v24, .ref m25, .ref m26, .ref m27, .ref m28, .ref m29, .int v30, .ref m31, .ref m32, .ref m33, .int v34, .int v35, .int v36, .ref m37, .ref m38, .ref m39, .ref m40, .long v41])), (m5, .inl (k 1, 1000, .inl f5))] := hD
            generalize H1 = H at hP hS ⊢
            have hw_67 : (0 ≤ r_66.toInt ∧ r_66.toInt ≤ 1) ∧ (r_66 = isByteOf f5 v6 L0f0x7 97 122) ∧ ((r_66.toInt = 1 ∧ L0f0x7.toInt < v6.toInt) ∨ r_66.toInt = 0) := hw
            obtain ⟨hw_68, hw_69, hw_70⟩ := hw_67
            clear hw
            obtain rfl : r_24 = r_66 := hw_27.trans hw_69.symm
            refine lv_if_eq (tgt := 185) hx hb dX12_next_114 (by decide) (fun h_71 => ?_) (fun h_71 => ?_)
            · skip
              have zh_71 : r_24.toInt = 0 := z_eq h_71
              exact False.elim (by omega)
            · skip
              have zh_71 : ¬ r_24.toInt = 0 := z_ne h_71
              refine lv_aload_n hx hb dX12_next_117 rfl (lv_at hl 1 rfl) ?_
              refine lv_iload_n hx hb dX12_next_118 rfl (lv_at hl 0 rfl) ?_
              refine lv_bipush (v := 11) hx hb dX12_next_119 (by decide) ?_
              refine lv_icmp_le (tgt := 130) hx hb dX12_next_121 (by decide) (fun _ => ?_) (fun c9 => absurd c9 (by decide))
              refine lv_ldc2 (v := 27) hx hb hown (hts _ tw_7_3) dX12_next_130 ?_
              refine lv_aload_n hx hb dX12_next_133 rfl (lv_at hl 1 rfl) ?_
              refine va_get (D := D) (ci := 12) (v := .long 0) (C := RX12) (T := TX12) (N := 42) hx hb hts iT_X12 hown hK hP 0 rfl rfl 11 (by decide) (hts _ tw_6_64) (fun _ h9 => h9) rfl dX12_next_134 ?_
              refine lv_lmul hx hb dX12_next_137 ?_
              refine lv_topl (fun x_72 ex_72 => ?_)
              obtain rfl : x_72 = 0 := ex_72.trans (by decide)
              refine lv_aload_n hx hb dX12_next_138 rfl (lv_at hl 1 rfl) ?_
              refine va_get (D := D) (ci := 12) (v := .ref m5) (C := RX12) (T := TX12) (N := 42) hx hb hts iT_X12 hown hK hP 0 rfl rfl 5 (by decide) (hts _ tw_6_58) (fun _ h9 => h9) rfl dX12_next_139 ?_
              refine lv_aload_n hx hb dX12_next_142 rfl (lv_at hl 1 rfl) ?_
              refine va_get (D := D) (ci := 12) (v := .int L0f0x7) (C := RX12) (T := TX12) (N := 42) hx hb hts iT_X12 hown hK hP 0 rfl rfl 7 (by decide) (hts _ tw_6_60) (fun _ h9 => h9) rfl dX12_next_143 ?_
              refine va_bald hx hb hK hP 1 1 rfl rfl (z_in (by omega) (by omega)) dX12_next_146 ?_
              refine lv_topi (fun x_73 ex_73 => ?_)
              refine lv_i2l (v := x_73.toInt64) hx hb dX12_next_147 rfl ?_
              refine lv_ladd hx hb dX12_next_148 ?_
              refine lv_topl (fun x_74 ex_74 => ?_)
              have zrx_73 := z_rng x_73
              have zx_74 : x_74.toInt = 0 + x_73.toInt := by rw [ex_74]; exact zl_add rfl (Int32.toInt_toInt64 _) (by omega) (by omega)
              refine lv_ldc2 (v := 96) hx hb hown (hts _ tw_7_4) dX12_next_149 ?_
              refine lv_lsub hx hb dX12_next_152 ?_
              refine lv_topl (fun x_75 ex_75 => ?_)
              have zx_75 : x_75.toInt = x_74.toInt - 96 := by rw [ex_75]; exact zl_sub rfl rfl (by omega) (by omega)
              refine va_put (D := D) (ci := 12) (v := .long x_75) (ty := tyX12 11) (C := RX12) (T := TX12) (N := 42) hx hb hts iT_X12 tyX12 tyX12_ok nmX12 hown hK hP hD hS 0 rfl rfl 11 (by decide) (hts _ tw_6_64) (fun _ h9 => h9) rfl (tyX12_ok 11 (by decide)) rfl rfl (Nat.le_of_ble_eq_true rfl) dX12_next_153 (fun H locs hP hD hS => ?_)
              have hP : va_P D vwCl [(mo, .inr (12, [.int v0, .ref m1, .ref m2, .ref m3, .ref m4, .ref m5, .int v6, .int L0f0x7, .int 1, .int L0f0x7, .int 0, .long x_75, .int v12, .int v13, .int v14, .int v15, .ref m16, .ref m17, .ref m18, .ref m19, .ref m20, .ref m21, .ref m22, .ref m23, .int v24, .ref m25, .ref m26, .ref m27, .ref m28, .ref m29, .int v30, .ref m31, .ref m32, .ref m33, .int v34, .int v35, .int v36, .ref m37, .ref m38, .ref m39, .ref m40, .long v41])), (m5, .inl (k 1, 1000, .inl f5))] H := hP
              have hD : va_D A [(mo, .inr (12, [.int v0, .ref m1, .ref m2, .ref m3, .ref m4, .ref m5, .int v6, .int L0f0x7, .int 1, .int L0f0x7, .int 0, .long x_75, .int v12, .int v13, .int v14, .int v15, .ref m16, .ref m17, .ref m18, .ref m19, .ref m20, .ref m21, .ref m22, .ref m23, .int v24, .ref m25, .ref m26, .ref m27, .ref m28, .ref m29, .int v30, .ref m31, .ref m32, .ref m33, .int v34, .int v35, .int v36, .ref m37, .ref m38, .ref m39, .ref m40, .long v41])), (m5, .inl (k 1, 1000, .inl f5))] := hD
              refine lv_iload_n hx hb dX12_next_156 rfl (lv_at hl 0 rfl) ?_
              refine lv_bipush (v := 11) hx hb dX12_next_157 (by decide) ?_
              refine lv_icmp_le (tgt := 169) hx hb dX12_next_159 (by decide) (fun _ => ?_) (fun c9 => absurd c9 (by decide))
              refine lv_aload_n hx hb dX12_next_169 rfl (lv_at hl 1 rfl) ?_
              refine lv_dup hx hb dX12_next_170 rfl ?_
              refine va_get (D := D) (ci := 12) (v := .int L0f0x7) (C := RX12) (T := TX12) (N := 42) hx hb hts iT_X12 hown hK hP 0 rfl rfl 7 (by decide) (hts _ tw_6_60) (fun _ h9 => h9) rfl dX12_next_171 ?_
              refine lv_iconst (v := 1) hx hb dX12_next_174 (by decide) ?_
              refine lv_iadd hx hb dX12_next_175 ?_
              refine lv_topi (fun x_76 ex_76 => ?_)
              have zx_76 : x_76.toInt = L0f0x7.toInt + 1 := by rw [ex_76]; exact z_add rfl rfl (by omega) (by omega)
              refine va_put (D := D) (ci := 12) (v := .int x_76) (ty := tyX12 7) (C := RX12) (T := TX12) (N := 42) hx hb hts iT_X12 tyX12 tyX12_ok nmX12 hown hK hP hD hS 0 rfl rfl 7 (by decide) (hts _ tw_6_60) (fun _ h9 => h9) rfl (tyX12_ok 7 (by decide)) rfl rfl (Nat.le_of_ble_eq_true rfl) dX12_next_176 (fun H locs hP hD hS => ?_)
              have hP : va_P D vwCl [(mo, .inr (12, [.int v0, .ref m1, .ref m2, .ref m3, .ref m4, .ref m5, .int v6, .int x_76, .int 1, .int L0f0x7, .int 0, .long x_75, .int v12, .int v13, .int v14, .int v15, .ref m16, .ref m17, .ref m18, .ref m19, .ref m20, .ref m21, .ref m22, .ref m23, .int v24, .ref m25, .ref m26, .ref m27, .ref m28, .ref m29, .int v30, .ref m31, .ref m32, .ref m33, .int v34, .int v35, .int v36, .ref m37, .ref m38, .ref m39, .ref m40, .long v41])), (m5, .inl (k 1, 1000, .inl f5))] H := hP
              have hD : va_D A [(mo, .inr (12, [.int v0, .ref m1, .ref m2, .ref m3, .ref m4, .ref m5, .int v6, .int x_76, .int 1, .int L0f0x7, .int 0, .long x_75, .int v12, .int v13, .int v14, .int v15, .ref m16, .ref m17, .ref m18, .ref m19, .ref m20, .ref m21, .ref m22, .ref m23, .int v24, .ref m25, .ref m26, .ref m27, .ref m28, .ref m29, .int v30, .ref m31, .ref m32, .ref m33, .int v34, .int v35, .int v36, .ref m37, .ref m38, .ref m39, .ref m40, .long v41])), (m5, .inl (k 1, 1000, .inl f5))] := hD
              refine lv_iinc (v := 1) (lv' := [(1, .int 1), (0, .ref mo)]) hx hb dX12_next_179 hl (k := 0) rfl (by decide) (by decide) rfl (fun ls hl => ?_)
              refine lv_goto (tgt := 102) hx hb dX12_next_182 (by decide) ?_
              refine loop_r (Wg := fun H locs ls => W p l e _ s m _ below meth c H locs _ _ _ (F0 m 102 ls [])) (fun n9 H locs ls => ∃ (L102l1 : Int32) (L102f0x7 : Int32) (L102f0x11 : Int64), n9 = (1000 - L102f0x7.toInt).toNat ∧ (2 ≤ L102f0x7.toInt ∧ L102f0x7.toInt ≤ 1000) ∧ (L102f0x7.toInt ≤ v6.toInt) ∧ (v7.toInt < L102f0x7.toInt) ∧ va_P D vwCl [(mo, .inr (12, [.int v0, .ref m1, .ref m2, .ref m3, .ref m4, .ref m5, .int v6, .int L102f0x7, .int 1, .int L0f0x7, .int 0, .long L102f0x11, .int v12, .int v13, .int v14, .int v15, .ref m16, .ref m17, .ref m18, .ref m19, .ref m20, .ref m21, .ref m22, .ref m23, .int v24, .ref m25, .ref m26, .ref m27, .ref m28, .ref m29, .int v30, .ref m31, .ref m32, .ref m33, .int v34, .int v35, .int v36, .ref m37, .ref m38, .ref m39, .ref m40, .long v41])), (m5, .inl (k 1, 1000, .inl f5))] H ∧ va_D A [(mo, .inr (12, [.int v0, .ref m1, .ref m2, .ref m3, .ref m4, .ref m5, .int v6, .int L102f0x7, .int 1, .int L0f0x7, .int 0, .long L102f0x11, .int v12, .int v13, .int v14, .int v15, .ref m16, .ref m17, .ref m18, .ref m19, .ref m20, .ref m21, .ref m22, .ref m23, .int v24, .ref m25, .ref m26, .ref m27, .ref m28, .ref m29, .int v30, .ref m31, .ref m32, .ref m33, .int v34, .int v35, .int v36, .ref m37, .ref m38, .ref m39, .ref m40, .long v41])), (m5, .inl (k 1, 1000, .inl f5))] ∧ va_S A s.heap H locs ∧ lv_has ls 2 [(0, .ref mo), (1, .int L102l1)]) (fun n9 H locs ls hI ih_78 => ?_) _ _ _ _ ⟨1, x_76, x_75, rfl, (show 2 ≤ x_76.toInt ∧ x_76.toInt ≤ 1000 from by omega), (show x_76.toInt ≤ v6.toInt from by omega), (show v7.toInt < x_76.toInt from by omega), hP.sub (ws' := [(mo, .inr (12, [.int v0, .ref m1, .ref m2, .ref m3, .ref m4, .ref m5, .int v6, .int x_76, .int 1, .int L0f0x7, .int 0, .long x_75, .int v12, .int v13, .int v14, .int v15, .ref m16, .ref m17, .ref m18, .ref m19, .ref m20, .ref m21, .ref m22, .ref m23, .int v24, .ref m25, .ref m26, .ref m27, .ref m28, .ref m29, .int v30, .ref m31, .ref m32, .ref m33, .int v34, .int v35, .int v36, .ref m37, .ref m38, .ref m39, .ref m40, .long v41])), (m5, .inl (k 1, 1000, .inl f5))]) [0, 1] rfl, hD.sub (ws' := [(mo, .inr (12, [.int v0, .ref m1, .ref m2, .ref m3, .ref m4, .ref m5, .int v6, .int x_76, .int 1, .int L0f0x7, .int 0, .long x_75, .int v12, .int v13, .int v14, .int v15, .ref m16, .ref m17, .ref m18, .ref m19, .ref m20, .ref m21, .ref m22, .ref m23, .int v24, .ref m25, .ref m26, .ref m27, .ref m28, .ref m29, .int v30, .ref m31, .ref m32, .ref m33, .int v34, .int v35, .int v36, .ref m37, .ref m38, .ref m39, .ref m40, .long v41])), (m5, .inl (k 1, 1000, .inl f5))]) [0, 1] (by decide +kernel) rfl, hS, lv_sub hl [1, 0] rfl⟩
              clear hP hD hS hl
              obtain ⟨L102l1, L102f0x7, L102f0x11, en_79, zL102f0x7, hi102x0, hi102x1, hP, hD, hS, hl⟩ := hI
              refine lv_aload_n hx hb dX12_next_102 rfl (lv_at hl 0 rfl) ?_
              refine lv_aload_n hx hb dX12_next_103 rfl (lv_at hl 0 rfl) ?_
              refine va_get (D := D) (ci := 12) (v := .int L102f0x7) (C := RX12) (T := TX12) (N := 42) hx hb hts iT_X12 hown hK hP 0 rfl rfl 7 (by decide) (hts _ tw_6_60) (fun _ h9 => h9) rfl dX12_next_104 ?_
              refine lv_bipush (v := 97) hx hb dX12_next_107 (by decide) ?_
              refine lv_bipush (v := 122) hx hb dX12_next_109 (by decide) ?_
              obtain ⟨hPc, hDc, hFc⟩ := sub3 hP hD hS hA (ws' := [(mo, .inr (12, [.int v0, .ref m1, .ref m2, .ref m3, .ref m4, .ref m5, .int v6, .int L102f0x7, .int 1, .int L0f0x7, .int 0, .long L102f0x11, .int v12, .int v13, .int v14, .int v15, .ref m16, .ref m17, .ref m18, .ref m19, .ref m20, .ref m21, .ref m22, .ref m23, .int v24, .ref m25, .ref m26, .ref m27, .ref m28, .ref m29, .int v30, .ref m31, .ref m32, .ref m33, .int v34, .int v35, .int v36, .ref m37, .ref m38, .ref m39, .ref m40, .long v41])), (m5, .inl (k 1, 1000, .inl f5))]) [0, 1] (by decide +kernel) rfl
              refine va_calli (va_runV (C := RX12) (As := [.int L102f0x7, .int 97, .int 122]) (rest := []) ⟨hx, hb, hml, hown, hts⟩ (c_X12_isByte l D k mo L102f0x7 97 122 v0 m1 m2 m3 m4 m5 v6 L102f0x7 1 L0f0x7 0 L102f0x11 v12 v13 v14 v15 m16 m17 m18 m19 m20 m21 m22 m23 v24 m25 m26 m27 m28 m29 v30 m31 m32 m33 v34 v35 v36 m37 m38 m39 m40 v41 f5 H.size (show 0 ≤ L102f0x7.toInt ∧ L102f0x7.toInt ≤ 1000 from by omega) (show 0 ≤ v6.toInt ∧ v6.toInt ≤ 1000 from by omega) (show 0 ≤ v24.toInt ∧ v24.toInt ≤ 1023 from by omega)) (cwV 3 hts (gV tw_6_238 tw_7_0 tw_p_40 tw_1_13 tw_7_1) rfl rfl rfl hdV_X12_isByte ⟨Nat.le_of_ble_eq_true rfl, Nat.le_of_ble_eq_true rfl⟩) (cz_V hK hPc hDc hN (ci := 12) (q0 := 0) rfl rfl [.int L102f0x7, .int 97, .int 122]) rfl rfl hl.1 rfl (lv_room (Nat.le_of_ble_eq_true rfl)) dX12_next_111 ⟨Nat.le_of_ble_eq_true rfl, Nat.le_of_ble_eq_true rfl⟩) hS (fun q _ h => hFc q h) hFc (fun r_80 uZ tZ H1 locs ht hvm hw hB hz1 hk1 hS => ?_)
              obtain ⟨hP1, hK1, hD1⟩ := hB
              rw [ht] at hP1
              obtain ⟨hP, hD⟩ := va_join (wr := []) (w1 := [(mo, .inr (12, [.int v0, .ref m1, .ref m2, .ref m3, .ref m4, .ref m5, .int v6, .int L102f0x7, .int 1, .int L0f0x7, .int 0, .long L102f0x11, .int v12, .int v13, .int v14, .int v15, .ref m16, .ref m17, .ref m18, .ref m19, .ref m20, .ref m21, .ref m22, .ref m23, .int v24, .ref m25, .ref m26, .ref m27, .ref m28, .ref m29, .int v30, .ref m31, .ref m32, .ref m33, .int v34, .int v35, .int v36, .ref m37, .ref m38, .ref m39, .ref m40, .long v41])), (m5, .inl (k 1, 1000, .inl f5))]) hP hD [0, 1] [] rfl rfl (by decide +kernel) (by decide +kernel) hk1 hFc hP1 hD1
              clear hK1 hP1 hD1 hPc hDc hFc
              clear hk1 hz1 ht hvm
              have hP : va_P D vwCl [(mo, .inr (12, [.int v0, .ref m1, .ref m2, .ref m3, .ref m4, .ref m5, .int v6, .int L102f0x7, .int 1, .int L0f0x7, .int 0, .long L102f0x11, .int v12, .int v13, .int v14, .int v15, .ref m16, .ref m17, .ref m18, .ref m19, .ref m20, .ref m21, .ref m22, .ref m23, .int v24, .ref m25, .ref m26, .ref m27, .ref m28, .ref m29, .int v30, .ref m31, .ref m32, .ref m33, .int v34, .int v35, .int v36, .ref m37, .ref m38, .ref m39, .ref m40, .long v41])), (m5, .inl (k 1, 1000, .inl f5))] H1 := hP
              have hD : va_D A [(mo, .inr (12, [.int v0, .ref m1, .ref m2, .ref m3, .ref m4, .ref m5, .int v6, .int L102f0x7, .int 1, .int L0f0x7, .int 0, .long L102f0x11, .int v12, .int v13, .int v14, .int v15, .ref m16, .ref m17, .ref m18, .ref m19, .ref m20, .ref m21, .ref m22, .ref m23, .int v24, .ref m25, .ref m26, .ref m27, .ref m28, .ref m29, .int v30, .ref m31, .ref m32, .ref m33, .int v34, .int v35, .int v36, .ref m37, .ref m38, .ref m39, .ref m40, .long v41])), (m5, .inl (k 1, 1000, .inl f5))] := hD
              generalize H1 = H at hP hS ⊢
              have hw_81 : (0 ≤ r_80.toInt ∧ r_80.toInt ≤ 1) ∧ (r_80 = isByteOf f5 v6 L102f0x7 97 122) ∧ ((r_80.toInt = 1 ∧ L102f0x7.toInt < v6.toInt) ∨ r_80.toInt = 0) := hw
              obtain ⟨hw_82, hw_83, hw_84⟩ := hw_81
              clear hw
              refine lv_if_eq (tgt := 185) hx hb dX12_next_114 (by decide) (fun h_85 => ?_) (fun h_85 => ?_)
              · skip
                have zh_85 : r_80.toInt = 0 := z_eq h_85
                refine lv_goto (tgt := 307) hx hb dX12_next_185 (by decide) ?_
                obtain ⟨hP9, hD9⟩ := sub2 hP hD (ws' := [(mo, .inr (12, [.int v0, .ref m1, .ref m2, .ref m3, .ref m4, .ref m5, .int v6, .int L102f0x7, .int 1, .int L0f0x7, .int 0, .long L102f0x11, .int v12, .int v13, .int v14, .int v15, .ref m16, .ref m17, .ref m18, .ref m19, .ref m20, .ref m21, .ref m22, .ref m23, .int v24, .ref m25, .ref m26, .ref m27, .ref m28, .ref m29, .int v30, .ref m31, .ref m32, .ref m33, .int v34, .int v35, .int v36, .ref m37, .ref m38, .ref m39, .ref m40, .long v41])), (m5, .inl (k 1, 1000, .inl f5))]) [0, 1] (by decide +kernel) rfl
                exact W.vret hx hb hr (fun tZ ht hW => ⟨⟨(L102f0x7, 1, L0f0x7, 0, L102f0x11), rfl, ⟨(show 0 ≤ L102f0x7.toInt ∧ L102f0x7.toInt ≤ 1000 from by omega), (show 0 ≤ 1 ∧ 1 ≤ 4 from by omega), (show 0 ≤ L0f0x7.toInt ∧ L0f0x7.toInt ≤ 1000 from by omega), (show v7.toInt ≤ L102f0x7.toInt ∧ L102f0x7.toInt ≤ v6.toInt from by omega), (show 1 = 0 ∨ v7.toInt < L102f0x7.toInt from by omega)⟩, by rw [ht]; exact hP9, va_K.moved hW.alike hK, hD9⟩, hS.F ht⟩) hS.2.2 dX12_next_307
              · skip
                have zh_85 : ¬ r_80.toInt = 0 := z_ne h_85
                refine lv_aload_n hx hb dX12_next_117 rfl (lv_at hl 0 rfl) ?_
                refine lv_iload_n hx hb dX12_next_118 rfl (lv_at hl 1 rfl) ?_
                refine lv_bipush (v := 11) hx hb dX12_next_119 (by decide) ?_
                refine lv_icmp_le (tgt := 130) hx hb dX12_next_121 (by decide) (fun h_86 => ?_) (fun h_86 => ?_)
                · skip
                  have zh_86 : L102l1.toInt ≤ 11 := z_le h_86
                  refine lv_ldc2 (v := 27) hx hb hown (hts _ tw_7_3) dX12_next_130 ?_
                  refine lv_aload_n hx hb dX12_next_133 rfl (lv_at hl 0 rfl) ?_
                  refine va_get (D := D) (ci := 12) (v := .long L102f0x11) (C := RX12) (T := TX12) (N := 42) hx hb hts iT_X12 hown hK hP 0 rfl rfl 11 (by decide) (hts _ tw_6_64) (fun _ h9 => h9) rfl dX12_next_134 ?_
                  refine lv_lmul hx hb dX12_next_137 ?_
                  refine lv_topl (fun x_87 ex_87 => ?_)
                  refine lv_aload_n hx hb dX12_next_138 rfl (lv_at hl 0 rfl) ?_
                  refine va_get (D := D) (ci := 12) (v := .ref m5) (C := RX12) (T := TX12) (N := 42) hx hb hts iT_X12 hown hK hP 0 rfl rfl 5 (by decide) (hts _ tw_6_58) (fun _ h9 => h9) rfl dX12_next_139 ?_
                  refine lv_aload_n hx hb dX12_next_142 rfl (lv_at hl 0 rfl) ?_
                  refine va_get (D := D) (ci := 12) (v := .int L102f0x7) (C := RX12) (T := TX12) (N := 42) hx hb hts iT_X12 hown hK hP 0 rfl rfl 7 (by decide) (hts _ tw_6_60) (fun _ h9 => h9) rfl dX12_next_143 ?_
                  refine va_bald hx hb hK hP 1 1 rfl rfl (z_in (by omega) (by omega)) dX12_next_146 ?_
                  refine lv_topi (fun x_88 ex_88 => ?_)
                  refine lv_i2l (v := x_88.toInt64) hx hb dX12_next_147 rfl ?_
                  refine lv_ladd hx hb dX12_next_148 ?_
                  refine lv_topl (fun x_89 ex_89 => ?_)
                  have zrx_88 := z_rng x_88
                  refine lv_ldc2 (v := 96) hx hb hown (hts _ tw_7_4) dX12_next_149 ?_
                  refine lv_lsub hx hb dX12_next_152 ?_
                  refine lv_topl (fun x_90 ex_90 => ?_)
                  refine va_put (D := D) (ci := 12) (v := .long x_90) (ty := tyX12 11) (C := RX12) (T := TX12) (N := 42) hx hb hts iT_X12 tyX12 tyX12_ok nmX12 hown hK hP hD hS 0 rfl rfl 11 (by decide) (hts _ tw_6_64) (fun _ h9 => h9) rfl (tyX12_ok 11 (by decide)) rfl rfl (Nat.le_of_ble_eq_true rfl) dX12_next_153 (fun H locs hP hD hS => ?_)
                  have hP : va_P D vwCl [(mo, .inr (12, [.int v0, .ref m1, .ref m2, .ref m3, .ref m4, .ref m5, .int v6, .int L102f0x7, .int 1, .int L0f0x7, .int 0, .long x_90, .int v12, .int v13, .int v14, .int v15, .ref m16, .ref m17, .ref m18, .ref m19, .ref m20, .ref m21, .ref m22, .ref m23, .int v24, .ref m25, .ref m26, .ref m27, .ref m28, .ref m29, .int v30, .ref m31, .ref m32, .ref m33, .int v34, .int v35, .int v36, .ref m37, .ref m38, .ref m39, .ref m40, .long v41])), (m5, .inl (k 1, 1000, .inl f5))] H := hP
                  have hD : va_D A [(mo, .inr (12, [.int v0, .ref m1, .ref m2, .ref m3, .ref m4, .ref m5, .int v6, .int L102f0x7, .int 1, .int L0f0x7, .int 0, .long x_90, .int v12, .int v13, .int v14, .int v15, .ref m16, .ref m17, .ref m18, .ref m19, .ref m20, .ref m21, .ref m22, .ref m23, .int v24, .ref m25, .ref m26, .ref m27, .ref m28, .ref m29, .int v30, .ref m31, .ref m32, .ref m33, .int v34, .int v35, .int v36, .ref m37, .ref m38, .ref m39, .ref m40, .long v41])), (m5, .inl (k 1, 1000, .inl f5))] := hD
                  refine lv_iload_n hx hb dX12_next_156 rfl (lv_at hl 1 rfl) ?_
                  refine lv_bipush (v := 11) hx hb dX12_next_157 (by decide) ?_
                  refine lv_icmp_le (tgt := 169) hx hb dX12_next_159 (by decide) (fun h_91 => ?_) (fun h_91 => ?_)
                  · skip
                    have zh_91 : L102l1.toInt ≤ 11 := z_le h_91
                    refine lv_aload_n hx hb dX12_next_169 rfl (lv_at hl 0 rfl) ?_
                    refine lv_dup hx hb dX12_next_170 rfl ?_
                    refine va_get (D := D) (ci := 12) (v := .int L102f0x7) (C := RX12) (T := TX12) (N := 42) hx hb hts iT_X12 hown hK hP 0 rfl rfl 7 (by decide) (hts _ tw_6_60) (fun _ h9 => h9) rfl dX12_next_171 ?_
                    refine lv_iconst (v := 1) hx hb dX12_next_174 (by decide) ?_
                    refine lv_iadd hx hb dX12_next_175 ?_
                    refine lv_topi (fun x_92 ex_92 => ?_)
                    have zx_92 : x_92.toInt = L102f0x7.toInt + 1 := by rw [ex_92]; exact z_add rfl rfl (by omega) (by omega)
                    refine va_put (D := D) (ci := 12) (v := .int x_92) (ty := tyX12 7) (C := RX12) (T := TX12) (N := 42) hx hb hts iT_X12 tyX12 tyX12_ok nmX12 hown hK hP hD hS 0 rfl rfl 7 (by decide) (hts _ tw_6_60) (fun _ h9 => h9) rfl (tyX12_ok 7 (by decide)) rfl rfl (Nat.le_of_ble_eq_true rfl) dX12_next_176 (fun H locs hP hD hS => ?_)
                    have hP : va_P D vwCl [(mo, .inr (12, [.int v0, .ref m1, .ref m2, .ref m3, .ref m4, .ref m5, .int v6, .int x_92, .int 1, .int L0f0x7, .int 0, .long x_90, .int v12, .int v13, .int v14, .int v15, .ref m16, .ref m17, .ref m18, .ref m19, .ref m20, .ref m21, .ref m22, .ref m23, .int v24, .ref m25, .ref m26, .ref m27, .ref m28, .ref m29, .int v30, .ref m31, .ref m32, .ref m33, .int v34, .int v35, .int v36, .ref m37, .ref m38, .ref m39, .ref m40, .long v41])), (m5, .inl (k 1, 1000, .inl f5))] H := hP
                    have hD : va_D A [(mo, .inr (12, [.int v0, .ref m1, .ref m2, .ref m3, .ref m4, .ref m5, .int v6, .int x_92, .int 1, .int L0f0x7, .int 0, .long x_90, .int v12, .int v13, .int v14, .int v15, .ref m16, .ref m17, .ref m18, .ref m19, .ref m20, .ref m21, .ref m22, .ref m23, .int v24, .ref m25, .ref m26, .ref m27, .ref m28, .ref m29, .int v30, .ref m31, .ref m32, .ref m33, .int v34, .int v35, .int v36, .ref m37, .ref m38, .ref m39, .ref m40, .long v41])), (m5, .inl (k 1, 1000, .inl f5))] := hD
                    obtain ⟨x_93, ex_93⟩ : ∃ y : Int32, y = L102l1 + 1 := ⟨_, rfl⟩
                    have zrL102l1 := z_rng L102l1
                    have zx_93 : x_93.toInt = L102l1.toInt + 1 := by rw [ex_93]; exact z_add rfl rfl (by omega) (by omega)
                    refine lv_iinc (v := x_93) (lv' := [(1, .int x_93), (0, .ref mo)]) hx hb dX12_next_179 hl (k := 1) rfl (by rw [ex_93]; rfl) (by decide) rfl (fun ls hl => ?_)
                    refine lv_goto (tgt := 102) hx hb dX12_next_182 (by decide) ?_
                    exact ih_78 _ _ _ _ (by omega) ⟨x_93, x_92, x_90, rfl, (show 2 ≤ x_92.toInt ∧ x_92.toInt ≤ 1000 from by omega), (show x_92.toInt ≤ v6.toInt from by omega), (show v7.toInt < x_92.toInt from by omega), hP.sub (ws' := [(mo, .inr (12, [.int v0, .ref m1, .ref m2, .ref m3, .ref m4, .ref m5, .int v6, .int x_92, .int 1, .int L0f0x7, .int 0, .long x_90, .int v12, .int v13, .int v14, .int v15, .ref m16, .ref m17, .ref m18, .ref m19, .ref m20, .ref m21, .ref m22, .ref m23, .int v24, .ref m25, .ref m26, .ref m27, .ref m28, .ref m29, .int v30, .ref m31, .ref m32, .ref m33, .int v34, .int v35, .int v36, .ref m37, .ref m38, .ref m39, .ref m40, .long v41])), (m5, .inl (k 1, 1000, .inl f5))]) [0, 1] rfl, hD.sub (ws' := [(mo, .inr (12, [.int v0, .ref m1, .ref m2, .ref m3, .ref m4, .ref m5, .int v6, .int x_92, .int 1, .int L0f0x7, .int 0, .long x_90, .int v12, .int v13, .int v14, .int v15, .ref m16, .ref m17, .ref m18, .ref m19, .ref m20, .ref m21, .ref m22, .ref m23, .int v24, .ref m25, .ref m26, .ref m27, .ref m28, .ref m29, .int v30, .ref m31, .ref m32, .ref m33, .int v34, .int v35, .int v36, .ref m37, .ref m38, .ref m39, .ref m40, .long v41])), (m5, .inl (k 1, 1000, .inl f5))]) [0, 1] (by decide +kernel) rfl, hS, lv_sub hl [1, 0] rfl⟩
                  · skip
                    have zh_91 : 11 < L102l1.toInt := z_nle h_91
                    exact False.elim (by omega)
                · skip
                  have zh_86 : 11 < L102l1.toInt := z_nle h_86
                  refine lv_ldc2 (v := (-1)) hx hb hown (hts _ tw_7_2) dX12_next_124 ?_
                  refine lv_goto (tgt := 153) hx hb dX12_next_127 (by decide) ?_
                  refine va_put (D := D) (ci := 12) (v := .long (-1)) (ty := tyX12 11) (C := RX12) (T := TX12) (N := 42) hx hb hts iT_X12 tyX12 tyX12_ok nmX12 hown hK hP hD hS 0 rfl rfl 11 (by decide) (hts _ tw_6_64) (fun _ h9 => h9) rfl (tyX12_ok 11 (by decide)) rfl rfl (Nat.le_of_ble_eq_true rfl) dX12_next_153 (fun H locs hP hD hS => ?_)
                  have hP : va_P D vwCl [(mo, .inr (12, [.int v0, .ref m1, .ref m2, .ref m3, .ref m4, .ref m5, .int v6, .int L102f0x7, .int 1, .int L0f0x7, .int 0, .long (-1), .int v12, .int v13, .int v14, .int v15, .ref m16, .ref m17, .ref m18, .ref m19, .ref m20, .ref m21, .ref m22, .ref m23, .int v24, .ref m25, .ref m26, .ref m27, .ref m28, .ref m29, .int v30, .ref m31, .ref m32, .ref m33, .int v34, .int v35, .int v36, .ref m37, .ref m38, .ref m39, .ref m40, .long v41])), (m5, .inl (k 1, 1000, .inl f5))] H := hP
                  have hD : va_D A [(mo, .inr (12, [.int v0, .ref m1, .ref m2, .ref m3, .ref m4, .ref m5, .int v6, .int L102f0x7, .int 1, .int L0f0x7, .int 0, .long (-1), .int v12, .int v13, .int v14, .int v15, .ref m16, .ref m17, .ref m18, .ref m19, .ref m20, .ref m21, .ref m22, .ref m23, .int v24, .ref m25, .ref m26, .ref m27, .ref m28, .ref m29, .int v30, .ref m31, .ref m32, .ref m33, .int v34, .int v35, .int v36, .ref m37, .ref m38, .ref m39, .ref m40, .long v41])), (m5, .inl (k 1, 1000, .inl f5))] := hD
                  refine lv_iload_n hx hb dX12_next_156 rfl (lv_at hl 1 rfl) ?_
                  refine lv_bipush (v := 11) hx hb dX12_next_157 (by decide) ?_
                  refine lv_icmp_le (tgt := 169) hx hb dX12_next_159 (by decide) (fun h_94 => ?_) (fun h_94 => ?_)
                  · skip
                    have zh_94 : L102l1.toInt ≤ 11 := z_le h_94
                    exact False.elim (by omega)
                  · skip
                    have zh_94 : 11 < L102l1.toInt := z_nle h_94
                    refine lv_aload_n hx hb dX12_next_162 rfl (lv_at hl 0 rfl) ?_
                    refine lv_ldc2 (v := (-1)) hx hb hown (hts _ tw_7_2) dX12_next_163 ?_
                    refine va_put (D := D) (ci := 12) (v := .long (-1)) (ty := tyX12 11) (C := RX12) (T := TX12) (N := 42) hx hb hts iT_X12 tyX12 tyX12_ok nmX12 hown hK hP hD hS 0 rfl rfl 11 (by decide) (hts _ tw_6_64) (fun _ h9 => h9) rfl (tyX12_ok 11 (by decide)) rfl rfl (Nat.le_of_ble_eq_true rfl) dX12_next_166 (fun H locs hP hD hS => ?_)
                    have hP : va_P D vwCl [(mo, .inr (12, [.int v0, .ref m1, .ref m2, .ref m3, .ref m4, .ref m5, .int v6, .int L102f0x7, .int 1, .int L0f0x7, .int 0, .long (-1), .int v12, .int v13, .int v14, .int v15, .ref m16, .ref m17, .ref m18, .ref m19, .ref m20, .ref m21, .ref m22, .ref m23, .int v24, .ref m25, .ref m26, .ref m27, .ref m28, .ref m29, .int v30, .ref m31, .ref m32, .ref m33, .int v34, .int v35, .int v36, .ref m37, .ref m38, .ref m39, .ref m40, .long v41])), (m5, .inl (k 1, 1000, .inl f5))] H := hP
                    have hD : va_D A [(mo, .inr (12, [.int v0, .ref m1, .ref m2, .ref m3, .ref m4, .ref m5, .int v6, .int L102f0x7, .int 1, .int L0f0x7, .int 0, .long (-1), .int v12, .int v13, .int v14, .int v15, .ref m16, .ref m17, .ref m18, .ref m19, .ref m20, .ref m21, .ref m22, .ref m23, .int v24, .ref m25, .ref m26, .ref m27, .ref m28, .ref m29, .int v30, .ref m31, .ref m32, .ref m33, .int v34, .int v35, .int v36, .ref m37, .ref m38, .ref m39, .ref m40, .long v41])), (m5, .inl (k 1, 1000, .inl f5))] := hD
                    refine lv_aload_n hx hb dX12_next_169 rfl (lv_at hl 0 rfl) ?_
                    refine lv_dup hx hb dX12_next_170 rfl ?_
                    refine va_get (D := D) (ci := 12) (v := .int L102f0x7) (C := RX12) (T := TX12) (N := 42) hx hb hts iT_X12 hown hK hP 0 rfl rfl 7 (by decide) (hts _ tw_6_60) (fun _ h9 => h9) rfl dX12_next_171 ?_
                    refine lv_iconst (v := 1) hx hb dX12_next_174 (by decide) ?_
                    refine lv_iadd hx hb dX12_next_175 ?_
                    refine lv_topi (fun x_95 ex_95 => ?_)
                    have zx_95 : x_95.toInt = L102f0x7.toInt + 1 := by rw [ex_95]; exact z_add rfl rfl (by omega) (by omega)
                    refine va_put (D := D) (ci := 12) (v := .int x_95) (ty := tyX12 7) (C := RX12) (T := TX12) (N := 42) hx hb hts iT_X12 tyX12 tyX12_ok nmX12 hown hK hP hD hS 0 rfl rfl 7 (by decide) (hts _ tw_6_60) (fun _ h9 => h9) rfl (tyX12_ok 7 (by decide)) rfl rfl (Nat.le_of_ble_eq_true rfl) dX12_next_176 (fun H locs hP hD hS => ?_)
                    have hP : va_P D vwCl [(mo, .inr (12, [.int v0, .ref m1, .ref m2, .ref m3, .ref m4, .ref m5, .int v6, .int x_95, .int 1, .int L0f0x7, .int 0, .long (-1), .int v12, .int v13, .int v14, .int v15, .ref m16, .ref m17, .ref m18, .ref m19, .ref m20, .ref m21, .ref m22, .ref m23, .int v24, .ref m25, .ref m26, .ref m27, .ref m28, .ref m29, .int v30, .ref m31, .ref m32, .ref m33, .int v34, .int v35, .int v36, .ref m37, .ref m38, .ref m39, .ref m40, .long v41])), (m5, .inl (k 1, 1000, .inl f5))] H := hP
                    have hD : va_D A [(mo, .inr (12, [.int v0, .ref m1, .ref m2, .ref m3, .ref m4, .ref m5, .int v6, .int x_95, .int 1, .int L0f0x7, .int 0, .long (-1), .int v12, .int v13, .int v14, .int v15, .ref m16, .ref m17, .ref m18, .ref m19, .ref m20, .ref m21, .ref m22, .ref m23, .int v24, .ref m25, .ref m26, .ref m27, .ref m28, .ref m29, .int v30, .ref m31, .ref m32, .ref m33, .int v34, .int v35, .int v36, .ref m37, .ref m38, .ref m39, .ref m40, .long v41])), (m5, .inl (k 1, 1000, .inl f5))] := hD
                    obtain ⟨x_96, ex_96⟩ : ∃ y : Int32, y = L102l1 + 1 := ⟨_, rfl⟩
                    have zrL102l1 := z_rng L102l1
                    refine lv_iinc (v := x_96) (lv' := [(1, .int x_96), (0, .ref mo)]) hx hb dX12_next_179 hl (k := 1) rfl (by rw [ex_96]; rfl) (by decide) rfl (fun ls hl => ?_)
                    refine lv_goto (tgt := 102) hx hb dX12_next_182 (by decide) ?_
                    exact ih_78 _ _ _ _ (by omega) ⟨x_96, x_95, (-1), rfl, (show 2 ≤ x_95.toInt ∧ x_95.toInt ≤ 1000 from by omega), (show x_95.toInt ≤ v6.toInt from by omega), (show v7.toInt < x_95.toInt from by omega), hP.sub (ws' := [(mo, .inr (12, [.int v0, .ref m1, .ref m2, .ref m3, .ref m4, .ref m5, .int v6, .int x_95, .int 1, .int L0f0x7, .int 0, .long (-1), .int v12, .int v13, .int v14, .int v15, .ref m16, .ref m17, .ref m18, .ref m19, .ref m20, .ref m21, .ref m22, .ref m23, .int v24, .ref m25, .ref m26, .ref m27, .ref m28, .ref m29, .int v30, .ref m31, .ref m32, .ref m33, .int v34, .int v35, .int v36, .ref m37, .ref m38, .ref m39, .ref m40, .long v41])), (m5, .inl (k 1, 1000, .inl f5))]) [0, 1] rfl, hD.sub (ws' := [(mo, .inr (12, [.int v0, .ref m1, .ref m2, .ref m3, .ref m4, .ref m5, .int v6, .int x_95, .int 1, .int L0f0x7, .int 0, .long (-1), .int v12, .int v13, .int v14, .int v15, .ref m16, .ref m17, .ref m18, .ref m19, .ref m20, .ref m21, .ref m22, .ref m23, .int v24, .ref m25, .ref m26, .ref m27, .ref m28, .ref m29, .int v30, .ref m31, .ref m32, .ref m33, .int v34, .int v35, .int v36, .ref m37, .ref m38, .ref m39, .ref m40, .long v41])), (m5, .inl (k 1, 1000, .inl f5))]) [0, 1] (by decide +kernel) rfl, hS, lv_sub hl [1, 0] rfl⟩
        · skip
          have zh_23 : L0f0x7.toInt = v6.toInt := z_eq h_23
          refine lv_aload_n hx hb dX12_next_72 rfl (lv_at hl 0 rfl) ?_
          refine lv_iconst (v := 0) hx hb dX12_next_73 (by decide) ?_
          refine va_put (D := D) (ci := 12) (v := .int 0) (ty := tyX12 8) (C := RX12) (T := TX12) (N := 42) hx hb hts iT_X12 tyX12 tyX12_ok nmX12 hown hK hP hD hS 0 rfl rfl 8 (by decide) (hts _ tw_6_61) (fun _ h9 => h9) rfl (tyX12_ok 8 (by decide)) rfl rfl (Nat.le_of_ble_eq_true rfl) dX12_next_74 (fun H locs hP hD hS => ?_)
          have hP : va_P D vwCl [(mo, .inr (12, [.int v0, .ref m1, .ref m2, .ref m3, .ref m4, .ref m5, .int v6, .int L0f0x7, .int 0, .int L0f0x7, .int 0, .long 0, .int v12, .int v13, .int v14, .int v15, .ref m16, .ref m17, .ref m18, .ref m19, .ref m20, .ref m21, .ref m22, .ref m23, .int v24, .ref m25, .ref m26, .ref m27, .ref m28, .ref m29, .int v30, .ref m31, .ref m32, .ref m33, .int v34, .int v35, .int v36, .ref m37, .ref m38, .ref m39, .ref m40, .long v41])), (m5, .inl (k 1, 1000, .inl f5))] H := hP
          have hD : va_D A [(mo, .inr (12, [.int v0, .ref m1, .ref m2, .ref m3, .ref m4, .ref m5, .int v6, .int L0f0x7, .int 0, .int L0f0x7, .int 0, .long 0, .int v12, .int v13, .int v14, .int v15, .ref m16, .ref m17, .ref m18, .ref m19, .ref m20, .ref m21, .ref m22, .ref m23, .int v24, .ref m25, .ref m26, .ref m27, .ref m28, .ref m29, .int v30, .ref m31, .ref m32, .ref m33, .int v34, .int v35, .int v36, .ref m37, .ref m38, .ref m39, .ref m40, .long v41])), (m5, .inl (k 1, 1000, .inl f5))] := hD
          refine lv_goto (tgt := 307) hx hb dX12_next_77 (by decide) ?_
          obtain ⟨hP9, hD9⟩ := sub2 hP hD (ws' := [(mo, .inr (12, [.int v0, .ref m1, .ref m2, .ref m3, .ref m4, .ref m5, .int v6, .int L0f0x7, .int 0, .int L0f0x7, .int 0, .long 0, .int v12, .int v13, .int v14, .int v15, .ref m16, .ref m17, .ref m18, .ref m19, .ref m20, .ref m21, .ref m22, .ref m23, .int v24, .ref m25, .ref m26, .ref m27, .ref m28, .ref m29, .int v30, .ref m31, .ref m32, .ref m33, .int v34, .int v35, .int v36, .ref m37, .ref m38, .ref m39, .ref m40, .long v41])), (m5, .inl (k 1, 1000, .inl f5))]) [0, 1] (by decide +kernel) rfl
          exact W.vret hx hb hr (fun tZ ht hW => ⟨⟨(L0f0x7, 0, L0f0x7, 0, 0), rfl, ⟨(show 0 ≤ L0f0x7.toInt ∧ L0f0x7.toInt ≤ 1000 from by omega), (show 0 ≤ 0 ∧ 0 ≤ 4 from by omega), (show 0 ≤ L0f0x7.toInt ∧ L0f0x7.toInt ≤ 1000 from by omega), (show v7.toInt ≤ L0f0x7.toInt ∧ L0f0x7.toInt ≤ v6.toInt from by omega), (show 0 = 0 ∨ v7.toInt < L0f0x7.toInt from by omega)⟩, by rw [ht]; exact hP9, va_K.moved hW.alike hK, hD9⟩, hS.F ht⟩) hS.2.2 dX12_next_307
      · skip
        have zh_22 : ¬ r_17.toInt = 0 := z_ne h_22
        refine lv_aload_n hx hb dX12_next_30 rfl (lv_at hl 0 rfl) ?_
        refine lv_dup hx hb dX12_next_31 rfl ?_
        refine va_get (D := D) (ci := 12) (v := .int L0f0x7) (C := RX12) (T := TX12) (N := 42) hx hb hts iT_X12 hown hK hP 0 rfl rfl 7 (by decide) (hts _ tw_6_60) (fun _ h9 => h9) rfl dX12_next_32 ?_
        refine lv_iconst (v := 1) hx hb dX12_next_35 (by decide) ?_
        refine lv_iadd hx hb dX12_next_36 ?_
        refine lv_topi (fun x_97 ex_97 => ?_)
        have zx_97 : x_97.toInt = L0f0x7.toInt + 1 := by rw [ex_97]; exact z_add rfl rfl (by omega) (by omega)
        refine va_put (D := D) (ci := 12) (v := .int x_97) (ty := tyX12 7) (C := RX12) (T := TX12) (N := 42) hx hb hts iT_X12 tyX12 tyX12_ok nmX12 hown hK hP hD hS 0 rfl rfl 7 (by decide) (hts _ tw_6_60) (fun _ h9 => h9) rfl (tyX12_ok 7 (by decide)) rfl rfl (Nat.le_of_ble_eq_true rfl) dX12_next_37 (fun H locs hP hD hS => ?_)
        have hP : va_P D vwCl [(mo, .inr (12, [.int v0, .ref m1, .ref m2, .ref m3, .ref m4, .ref m5, .int v6, .int x_97, .int v8, .int v9, .int v10, .long v11, .int v12, .int v13, .int v14, .int v15, .ref m16, .ref m17, .ref m18, .ref m19, .ref m20, .ref m21, .ref m22, .ref m23, .int v24, .ref m25, .ref m26, .ref m27, .ref m28, .ref m29, .int v30, .ref m31, .ref m32, .ref m33, .int v34, .int v35, .int v36, .ref m37, .ref m38, .ref m39, .ref m40, .long v41])), (m5, .inl (k 1, 1000, .inl f5))] H := hP
        have hD : va_D A [(mo, .inr (12, [.int v0, .ref m1, .ref m2, .ref m3, .ref m4, .ref m5, .int v6, .int x_97, .int v8, .int v9, .int v10, .long v11, .int v12, .int v13, .int v14, .int v15, .ref m16, .ref m17, .ref m18, .ref m19, .ref m20, .ref m21, .ref m22, .ref m23, .int v24, .ref m25, .ref m26, .ref m27, .ref m28, .ref m29, .int v30, .ref m31, .ref m32, .ref m33, .int v34, .int v35, .int v36, .ref m37, .ref m38, .ref m39, .ref m40, .long v41])), (m5, .inl (k 1, 1000, .inl f5))] := hD
        refine lv_goto (tgt := 0) hx hb dX12_next_40 (by decide) ?_
        exact ih_8 _ _ _ _ (by omega) ⟨x_97, rfl, (show 1 ≤ x_97.toInt ∧ x_97.toInt ≤ 1000 from by omega), (show x_97.toInt ≤ v6.toInt from by omega), (show v7.toInt ≤ x_97.toInt from by omega), hP.sub (ws' := [(mo, .inr (12, [.int v0, .ref m1, .ref m2, .ref m3, .ref m4, .ref m5, .int v6, .int x_97, .int v8, .int v9, .int v10, .long v11, .int v12, .int v13, .int v14, .int v15, .ref m16, .ref m17, .ref m18, .ref m19, .ref m20, .ref m21, .ref m22, .ref m23, .int v24, .ref m25, .ref m26, .ref m27, .ref m28, .ref m29, .int v30, .ref m31, .ref m32, .ref m33, .int v34, .int v35, .int v36, .ref m37, .ref m38, .ref m39, .ref m40, .long v41])), (m5, .inl (k 1, 1000, .inl f5))]) [0, 1] rfl, hD.sub (ws' := [(mo, .inr (12, [.int v0, .ref m1, .ref m2, .ref m3, .ref m4, .ref m5, .int v6, .int x_97, .int v8, .int v9, .int v10, .long v11, .int v12, .int v13, .int v14, .int v15, .ref m16, .ref m17, .ref m18, .ref m19, .ref m20, .ref m21, .ref m22, .ref m23, .int v24, .ref m25, .ref m26, .ref m27, .ref m28, .ref m29, .int v30, .ref m31, .ref m32, .ref m33, .int v34, .int v35, .int v36, .ref m37, .ref m38, .ref m39, .ref m40, .long v41])), (m5, .inl (k 1, 1000, .inl f5))]) [0, 1] (by decide +kernel) rfl, hS, lv_sub hl [0] rfl⟩
  · skip
    have zh_6 : r_1.toInt = 0 := z_eq h_6
    refine lv_aload_n hx hb dX12_next_15 rfl (lv_at hl 0 rfl) ?_
    refine lv_aload_n hx hb dX12_next_16 rfl (lv_at hl 0 rfl) ?_
    refine va_get (D := D) (ci := 12) (v := .int v7) (C := RX12) (T := TX12) (N := 42) hx hb hts iT_X12 hown hK hP 0 rfl rfl 7 (by decide) (hts _ tw_6_60) (fun _ h9 => h9) rfl dX12_next_17 ?_
    refine lv_bipush (v := 10) hx hb dX12_next_20 (by decide) ?_
    refine lv_bipush (v := 10) hx hb dX12_next_22 (by decide) ?_
    obtain ⟨hPc, hDc, hFc⟩ := sub3 hP hD hS hA (ws' := [(mo, .inr (12, [.int v0, .ref m1, .ref m2, .ref m3, .ref m4, .ref m5, .int v6, .int v7, .int v8, .int v9, .int v10, .long v11, .int v12, .int v13, .int v14, .int v15, .ref m16, .ref m17, .ref m18, .ref m19, .ref m20, .ref m21, .ref m22, .ref m23, .int v24, .ref m25, .ref m26, .ref m27, .ref m28, .ref m29, .int v30, .ref m31, .ref m32, .ref m33, .int v34, .int v35, .int v36, .ref m37, .ref m38, .ref m39, .ref m40, .long v41])), (m5, .inl (k 1, 1000, .inl f5))]) [0, 1] (by decide +kernel) rfl
    refine va_calli (va_runV (C := RX12) (As := [.int v7, .int 10, .int 10]) (rest := []) ⟨hx, hb, hml, hown, hts⟩ (c_X12_isByte l D k mo v7 10 10 v0 m1 m2 m3 m4 m5 v6 v7 v8 v9 v10 v11 v12 v13 v14 v15 m16 m17 m18 m19 m20 m21 m22 m23 v24 m25 m26 m27 m28 m29 v30 m31 m32 m33 v34 v35 v36 m37 m38 m39 m40 v41 f5 H.size (show 0 ≤ v7.toInt ∧ v7.toInt ≤ 1000 from by omega) (show 0 ≤ v6.toInt ∧ v6.toInt ≤ 1000 from by omega) (show 0 ≤ v24.toInt ∧ v24.toInt ≤ 1023 from by omega)) (cwV 3 hts (gV tw_6_238 tw_7_0 tw_p_40 tw_1_13 tw_7_1) rfl rfl rfl hdV_X12_isByte ⟨Nat.le_of_ble_eq_true rfl, Nat.le_of_ble_eq_true rfl⟩) (cz_V hK hPc hDc hN (ci := 12) (q0 := 0) rfl rfl [.int v7, .int 10, .int 10]) rfl rfl hl.1 rfl (lv_room (Nat.le_of_ble_eq_true rfl)) dX12_next_24 ⟨Nat.le_of_ble_eq_true rfl, Nat.le_of_ble_eq_true rfl⟩) hS (fun q _ h => hFc q h) hFc (fun r_98 uZ tZ H1 locs ht hvm hw hB hz1 hk1 hS => ?_)
    obtain ⟨hP1, hK1, hD1⟩ := hB
    rw [ht] at hP1
    obtain ⟨hP, hD⟩ := va_join (wr := []) (w1 := [(mo, .inr (12, [.int v0, .ref m1, .ref m2, .ref m3, .ref m4, .ref m5, .int v6, .int v7, .int v8, .int v9, .int v10, .long v11, .int v12, .int v13, .int v14, .int v15, .ref m16, .ref m17, .ref m18, .ref m19, .ref m20, .ref m21, .ref m22, .ref m23, .int v24, .ref m25, .ref m26, .ref m27, .ref m28, .ref m29, .int v30, .ref m31, .ref m32, .ref m33, .int v34, .int v35, .int v36, .ref m37, .ref m38, .ref m39, .ref m40, .long v41])), (m5, .inl (k 1, 1000, .inl f5))]) hP hD [0, 1] [] rfl rfl (by decide +kernel) (by decide +kernel) hk1 hFc hP1 hD1
    clear hK1 hP1 hD1 hPc hDc hFc
    clear hk1 hz1 ht hvm
    have hP : va_P D vwCl [(mo, .inr (12, [.int v0, .ref m1, .ref m2, .ref m3, .ref m4, .ref m5, .int v6, .int v7, .int v8, .int v9, .int v10, .long v11, .int v12, .int v13, .int v14, .int v15, .ref m16, .ref m17, .ref m18, .ref m19, .ref m20, .ref m21, .ref m22, .ref m23, .int v24, .ref m25, .ref m26, .ref m27, .ref m28, .ref m29, .int v30, .ref m31, .ref m32, .ref m33, .int v34, .int v35, .int v36, .ref m37, .ref m38, .ref m39, .ref m40, .long v41])), (m5, .inl (k 1, 1000, .inl f5))] H1 := hP
    have hD : va_D A [(mo, .inr (12, [.int v0, .ref m1, .ref m2, .ref m3, .ref m4, .ref m5, .int v6, .int v7, .int v8, .int v9, .int v10, .long v11, .int v12, .int v13, .int v14, .int v15, .ref m16, .ref m17, .ref m18, .ref m19, .ref m20, .ref m21, .ref m22, .ref m23, .int v24, .ref m25, .ref m26, .ref m27, .ref m28, .ref m29, .int v30, .ref m31, .ref m32, .ref m33, .int v34, .int v35, .int v36, .ref m37, .ref m38, .ref m39, .ref m40, .long v41])), (m5, .inl (k 1, 1000, .inl f5))] := hD
    generalize H1 = H at hP hS ⊢
    have hw_99 : (0 ≤ r_98.toInt ∧ r_98.toInt ≤ 1) ∧ (r_98 = isByteOf f5 v6 v7 10 10) ∧ ((r_98.toInt = 1 ∧ v7.toInt < v6.toInt) ∨ r_98.toInt = 0) := hw
    obtain ⟨hw_100, hw_101, hw_102⟩ := hw_99
    clear hw
    refine lv_if_eq (tgt := 43) hx hb dX12_next_27 (by decide) (fun h_103 => ?_) (fun h_103 => ?_)
    · skip
      have zh_103 : r_98.toInt = 0 := z_eq h_103
      refine lv_aload_n hx hb dX12_next_43 rfl (lv_at hl 0 rfl) ?_
      refine lv_aload_n hx hb dX12_next_44 rfl (lv_at hl 0 rfl) ?_
      refine va_get (D := D) (ci := 12) (v := .int v7) (C := RX12) (T := TX12) (N := 42) hx hb hts iT_X12 hown hK hP 0 rfl rfl 7 (by decide) (hts _ tw_6_60) (fun _ h9 => h9) rfl dX12_next_45 ?_
      refine va_put (D := D) (ci := 12) (v := .int v7) (ty := tyX12 9) (C := RX12) (T := TX12) (N := 42) hx hb hts iT_X12 tyX12 tyX12_ok nmX12 hown hK hP hD hS 0 rfl rfl 9 (by decide) (hts _ tw_6_62) (fun _ h9 => h9) rfl (tyX12_ok 9 (by decide)) rfl rfl (Nat.le_of_ble_eq_true rfl) dX12_next_48 (fun H locs hP hD hS => ?_)
      have hP : va_P D vwCl [(mo, .inr (12, [.int v0, .ref m1, .ref m2, .ref m3, .ref m4, .ref m5, .int v6, .int v7, .int v8, .int v7, .int v10, .long v11, .int v12, .int v13, .int v14, .int v15, .ref m16, .ref m17, .ref m18, .ref m19, .ref m20, .ref m21, .ref m22, .ref m23, .int v24, .ref m25, .ref m26, .ref m27, .ref m28, .ref m29, .int v30, .ref m31, .ref m32, .ref m33, .int v34, .int v35, .int v36, .ref m37, .ref m38, .ref m39, .ref m40, .long v41])), (m5, .inl (k 1, 1000, .inl f5))] H := hP
      have hD : va_D A [(mo, .inr (12, [.int v0, .ref m1, .ref m2, .ref m3, .ref m4, .ref m5, .int v6, .int v7, .int v8, .int v7, .int v10, .long v11, .int v12, .int v13, .int v14, .int v15, .ref m16, .ref m17, .ref m18, .ref m19, .ref m20, .ref m21, .ref m22, .ref m23, .int v24, .ref m25, .ref m26, .ref m27, .ref m28, .ref m29, .int v30, .ref m31, .ref m32, .ref m33, .int v34, .int v35, .int v36, .ref m37, .ref m38, .ref m39, .ref m40, .long v41])), (m5, .inl (k 1, 1000, .inl f5))] := hD
      refine lv_aload_n hx hb dX12_next_51 rfl (lv_at hl 0 rfl) ?_
      refine lv_iconst (v := 0) hx hb dX12_next_52 (by decide) ?_
      refine va_put (D := D) (ci := 12) (v := .int 0) (ty := tyX12 10) (C := RX12) (T := TX12) (N := 42) hx hb hts iT_X12 tyX12 tyX12_ok nmX12 hown hK hP hD hS 0 rfl rfl 10 (by decide) (hts _ tw_6_63) (fun _ h9 => h9) rfl (tyX12_ok 10 (by decide)) rfl rfl (Nat.le_of_ble_eq_true rfl) dX12_next_53 (fun H locs hP hD hS => ?_)
      have hP : va_P D vwCl [(mo, .inr (12, [.int v0, .ref m1, .ref m2, .ref m3, .ref m4, .ref m5, .int v6, .int v7, .int v8, .int v7, .int 0, .long v11, .int v12, .int v13, .int v14, .int v15, .ref m16, .ref m17, .ref m18, .ref m19, .ref m20, .ref m21, .ref m22, .ref m23, .int v24, .ref m25, .ref m26, .ref m27, .ref m28, .ref m29, .int v30, .ref m31, .ref m32, .ref m33, .int v34, .int v35, .int v36, .ref m37, .ref m38, .ref m39, .ref m40, .long v41])), (m5, .inl (k 1, 1000, .inl f5))] H := hP
      have hD : va_D A [(mo, .inr (12, [.int v0, .ref m1, .ref m2, .ref m3, .ref m4, .ref m5, .int v6, .int v7, .int v8, .int v7, .int 0, .long v11, .int v12, .int v13, .int v14, .int v15, .ref m16, .ref m17, .ref m18, .ref m19, .ref m20, .ref m21, .ref m22, .ref m23, .int v24, .ref m25, .ref m26, .ref m27, .ref m28, .ref m29, .int v30, .ref m31, .ref m32, .ref m33, .int v34, .int v35, .int v36, .ref m37, .ref m38, .ref m39, .ref m40, .long v41])), (m5, .inl (k 1, 1000, .inl f5))] := hD
      refine lv_aload_n hx hb dX12_next_56 rfl (lv_at hl 0 rfl) ?_
      refine lv_lconst (v := 0) hx hb dX12_next_57 (by decide) ?_
      refine va_put (D := D) (ci := 12) (v := .long 0) (ty := tyX12 11) (C := RX12) (T := TX12) (N := 42) hx hb hts iT_X12 tyX12 tyX12_ok nmX12 hown hK hP hD hS 0 rfl rfl 11 (by decide) (hts _ tw_6_64) (fun _ h9 => h9) rfl (tyX12_ok 11 (by decide)) rfl rfl (Nat.le_of_ble_eq_true rfl) dX12_next_58 (fun H locs hP hD hS => ?_)
      have hP : va_P D vwCl [(mo, .inr (12, [.int v0, .ref m1, .ref m2, .ref m3, .ref m4, .ref m5, .int v6, .int v7, .int v8, .int v7, .int 0, .long 0, .int v12, .int v13, .int v14, .int v15, .ref m16, .ref m17, .ref m18, .ref m19, .ref m20, .ref m21, .ref m22, .ref m23, .int v24, .ref m25, .ref m26, .ref m27, .ref m28, .ref m29, .int v30, .ref m31, .ref m32, .ref m33, .int v34, .int v35, .int v36, .ref m37, .ref m38, .ref m39, .ref m40, .long v41])), (m5, .inl (k 1, 1000, .inl f5))] H := hP
      have hD : va_D A [(mo, .inr (12, [.int v0, .ref m1, .ref m2, .ref m3, .ref m4, .ref m5, .int v6, .int v7, .int v8, .int v7, .int 0, .long 0, .int v12, .int v13, .int v14, .int v15, .ref m16, .ref m17, .ref m18, .ref m19, .ref m20, .ref m21, .ref m22, .ref m23, .int v24, .ref m25, .ref m26, .ref m27, .ref m28, .ref m29, .int v30, .ref m31, .ref m32, .ref m33, .int v34, .int v35, .int v36, .ref m37, .ref m38, .ref m39, .ref m40, .long v41])), (m5, .inl (k 1, 1000, .inl f5))] := hD
      refine lv_aload_n hx hb dX12_next_61 rfl (lv_at hl 0 rfl) ?_
      refine va_get (D := D) (ci := 12) (v := .int v7) (C := RX12) (T := TX12) (N := 42) hx hb hts iT_X12 hown hK hP 0 rfl rfl 7 (by decide) (hts _ tw_6_60) (fun _ h9 => h9) rfl dX12_next_62 ?_
      refine lv_aload_n hx hb dX12_next_65 rfl (lv_at hl 0 rfl) ?_
      refine va_get (D := D) (ci := 12) (v := .int v6) (C := RX12) (T := TX12) (N := 42) hx hb hts iT_X12 hown hK hP 0 rfl rfl 6 (by decide) (hts _ tw_6_59) (fun _ h9 => h9) rfl dX12_next_66 ?_
      refine lv_icmp_ne (tgt := 80) hx hb dX12_next_69 (by decide) (fun h_104 => ?_) (fun h_104 => ?_)
      · skip
        have zh_104 : ¬ v7.toInt = v6.toInt := z_ne h_104
        refine lv_aload_n hx hb dX12_next_80 rfl (lv_at hl 0 rfl) ?_
        refine lv_aload_n hx hb dX12_next_81 rfl (lv_at hl 0 rfl) ?_
        refine va_get (D := D) (ci := 12) (v := .int v7) (C := RX12) (T := TX12) (N := 42) hx hb hts iT_X12 hown hK hP 0 rfl rfl 7 (by decide) (hts _ tw_6_60) (fun _ h9 => h9) rfl dX12_next_82 ?_
        refine lv_bipush (v := 97) hx hb dX12_next_85 (by decide) ?_
        refine lv_bipush (v := 122) hx hb dX12_next_87 (by decide) ?_
        obtain ⟨hPc, hDc, hFc⟩ := sub3 hP hD hS hA (ws' := [(mo, .inr (12, [.int v0, .ref m1, .ref m2, .ref m3, .ref m4, .ref m5, .int v6, .int v7, .int v8, .int v7, .int 0, .long 0, .int v12, .int v13, .int v14, .int v15, .ref m16, .ref m17, .ref m18, .ref m19, .ref m20, .ref m21, .ref m22, .ref m23, .int v24, .ref m25, .ref m26, .ref m27, .ref m28, .ref m29, .int v30, .ref m31, .ref m32, .ref m33, .int v34, .int v35, .int v36, .ref m37, .ref m38, .ref m39, .ref m40, .long v41])), (m5, .inl (k 1, 1000, .inl f5))]) [0, 1] (by decide +kernel) rfl
        refine va_calli (va_runV (C := RX12) (As := [.int v7, .int 97, .int 122]) (rest := []) ⟨hx, hb, hml, hown, hts⟩ (c_X12_isByte l D k mo v7 97 122 v0 m1 m2 m3 m4 m5 v6 v7 v8 v7 0 0 v12 v13 v14 v15 m16 m17 m18 m19 m20 m21 m22 m23 v24 m25 m26 m27 m28 m29 v30 m31 m32 m33 v34 v35 v36 m37 m38 m39 m40 v41 f5 H.size (show 0 ≤ v7.toInt ∧ v7.toInt ≤ 1000 from by omega) (show 0 ≤ v6.toInt ∧ v6.toInt ≤ 1000 from by omega) (show 0 ≤ v24.toInt ∧ v24.toInt ≤ 1023 from by omega)) (cwV 3 hts (gV tw_6_238 tw_7_0 tw_p_40 tw_1_13 tw_7_1) rfl rfl rfl hdV_X12_isByte ⟨Nat.le_of_ble_eq_true rfl, Nat.le_of_ble_eq_true rfl⟩) (cz_V hK hPc hDc hN (ci := 12) (q0 := 0) rfl rfl [.int v7, .int 97, .int 122]) rfl rfl hl.1 rfl (lv_room (Nat.le_of_ble_eq_true rfl)) dX12_next_89 ⟨Nat.le_of_ble_eq_true rfl, Nat.le_of_ble_eq_true rfl⟩) hS (fun q _ h => hFc q h) hFc (fun r_105 uZ tZ H1 locs ht hvm hw hB hz1 hk1 hS => ?_)
        obtain ⟨hP1, hK1, hD1⟩ := hB
        rw [ht] at hP1
        obtain ⟨hP, hD⟩ := va_join (wr := []) (w1 := [(mo, .inr (12, [.int v0, .ref m1, .ref m2, .ref m3, .ref m4, .ref m5, .int v6, .int v7, .int v8, .int v7, .int 0, .long 0, .int v12, .int v13, .int v14, .int v15, .ref m16, .ref m17, .ref m18, .ref m19, .ref m20, .ref m21, .ref m22, .ref m23, .int v24, .ref m25, .ref m26, .ref m27, .ref m28, .ref m29, .int v30, .ref m31, .ref m32, .ref m33, .int v34, .int v35, .int v36, .ref m37, .ref m38, .ref m39, .ref m40, .long v41])), (m5, .inl (k 1, 1000, .inl f5))]) hP hD [0, 1] [] rfl rfl (by decide +kernel) (by decide +kernel) hk1 hFc hP1 hD1
        clear hK1 hP1 hD1 hPc hDc hFc
        clear hk1 hz1 ht hvm
        have hP : va_P D vwCl [(mo, .inr (12, [.int v0, .ref m1, .ref m2, .ref m3, .ref m4, .ref m5, .int v6, .int v7, .int v8, .int v7, .int 0, .long 0, .int v12, .int v13, .int v14, .int v15, .ref m16, .ref m17, .ref m18, .ref m19, .ref m20, .ref m21, .ref m22, .ref m23, .int v24, .ref m25, .ref m26, .ref m27, .ref m28, .ref m29, .int v30, .ref m31, .ref m32, .ref m33, .int v34, .int v35, .int v36, .ref m37, .ref m38, .ref m39, .ref m40, .long v41])), (m5, .inl (k 1, 1000, .inl f5))] H1 := hP
        have hD : va_D A [(mo, .inr (12, [.int v0, .ref m1, .ref m2, .ref m3, .ref m4, .ref m5, .int v6, .int v7, .int v8, .int v7, .int 0, .long 0, .int v12, .int v13, .int v14, .int v15, .ref m16, .ref m17, .ref m18, .ref m19, .ref m20, .ref m21, .ref m22, .ref m23, .int v24, .ref m25, .ref m26, .ref m27, .ref m28, .ref m29, .int v30, .ref m31, .ref m32, .ref m33, .int v34, .int v35, .int v36, .ref m37, .ref m38, .ref m39, .ref m40, .long v41])), (m5, .inl (k 1, 1000, .inl f5))] := hD
        generalize H1 = H at hP hS ⊢
        have hw_106 : (0 ≤ r_105.toInt ∧ r_105.toInt ≤ 1) ∧ (r_105 = isByteOf f5 v6 v7 97 122) ∧ ((r_105.toInt = 1 ∧ v7.toInt < v6.toInt) ∨ r_105.toInt = 0) := hw
        obtain ⟨hw_107, hw_108, hw_109⟩ := hw_106
        clear hw
        refine lv_if_eq (tgt := 188) hx hb dX12_next_92 (by decide) (fun h_110 => ?_) (fun h_110 => ?_)
        · skip
          have zh_110 : r_105.toInt = 0 := z_eq h_110
          refine lv_aload_n hx hb dX12_next_188 rfl (lv_at hl 0 rfl) ?_
          refine lv_aload_n hx hb dX12_next_189 rfl (lv_at hl 0 rfl) ?_
          refine va_get (D := D) (ci := 12) (v := .int v7) (C := RX12) (T := TX12) (N := 42) hx hb hts iT_X12 hown hK hP 0 rfl rfl 7 (by decide) (hts _ tw_6_60) (fun _ h9 => h9) rfl dX12_next_190 ?_
          refine lv_bipush (v := 48) hx hb dX12_next_193 (by decide) ?_
          refine lv_bipush (v := 57) hx hb dX12_next_195 (by decide) ?_
          obtain ⟨hPc, hDc, hFc⟩ := sub3 hP hD hS hA (ws' := [(mo, .inr (12, [.int v0, .ref m1, .ref m2, .ref m3, .ref m4, .ref m5, .int v6, .int v7, .int v8, .int v7, .int 0, .long 0, .int v12, .int v13, .int v14, .int v15, .ref m16, .ref m17, .ref m18, .ref m19, .ref m20, .ref m21, .ref m22, .ref m23, .int v24, .ref m25, .ref m26, .ref m27, .ref m28, .ref m29, .int v30, .ref m31, .ref m32, .ref m33, .int v34, .int v35, .int v36, .ref m37, .ref m38, .ref m39, .ref m40, .long v41])), (m5, .inl (k 1, 1000, .inl f5))]) [0, 1] (by decide +kernel) rfl
          refine va_calli (va_runV (C := RX12) (As := [.int v7, .int 48, .int 57]) (rest := []) ⟨hx, hb, hml, hown, hts⟩ (c_X12_isByte l D k mo v7 48 57 v0 m1 m2 m3 m4 m5 v6 v7 v8 v7 0 0 v12 v13 v14 v15 m16 m17 m18 m19 m20 m21 m22 m23 v24 m25 m26 m27 m28 m29 v30 m31 m32 m33 v34 v35 v36 m37 m38 m39 m40 v41 f5 H.size (show 0 ≤ v7.toInt ∧ v7.toInt ≤ 1000 from by omega) (show 0 ≤ v6.toInt ∧ v6.toInt ≤ 1000 from by omega) (show 0 ≤ v24.toInt ∧ v24.toInt ≤ 1023 from by omega)) (cwV 3 hts (gV tw_6_238 tw_7_0 tw_p_40 tw_1_13 tw_7_1) rfl rfl rfl hdV_X12_isByte ⟨Nat.le_of_ble_eq_true rfl, Nat.le_of_ble_eq_true rfl⟩) (cz_V hK hPc hDc hN (ci := 12) (q0 := 0) rfl rfl [.int v7, .int 48, .int 57]) rfl rfl hl.1 rfl (lv_room (Nat.le_of_ble_eq_true rfl)) dX12_next_197 ⟨Nat.le_of_ble_eq_true rfl, Nat.le_of_ble_eq_true rfl⟩) hS (fun q _ h => hFc q h) hFc (fun r_111 uZ tZ H1 locs ht hvm hw hB hz1 hk1 hS => ?_)
          obtain ⟨hP1, hK1, hD1⟩ := hB
          rw [ht] at hP1
          obtain ⟨hP, hD⟩ := va_join (wr := []) (w1 := [(mo, .inr (12, [.int v0, .ref m1, .ref m2, .ref m3, .ref m4, .ref m5, .int v6, .int v7, .int v8, .int v7, .int 0, .long 0, .int v12, .int v13, .int v14, .int v15, .ref m16, .ref m17, .ref m18, .ref m19, .ref m20, .ref m21, .ref m22, .ref m23, .int v24, .ref m25, .ref m26, .ref m27, .ref m28, .ref m29, .int v30, .ref m31, .ref m32, .ref m33, .int v34, .int v35, .int v36, .ref m37, .ref m38, .ref m39, .ref m40, .long v41])), (m5, .inl (k 1, 1000, .inl f5))]) hP hD [0, 1] [] rfl rfl (by decide +kernel) (by decide +kernel) hk1 hFc hP1 hD1
          clear hK1 hP1 hD1 hPc hDc hFc
          clear hk1 hz1 ht hvm
          have hP : va_P D vwCl [(mo, .inr (12, [.int v0, .ref m1, .ref m2, .ref m3, .ref m4, .ref m5, .int v6, .int v7, .int v8, .int v7, .int 0, .long 0, .int v12, .int v13, .int v14, .int v15, .ref m16, .ref m17, .ref m18, .ref m19, .ref m20, .ref m21, .ref m22, .ref m23, .int v24, .ref m25, .ref m26, .ref m27, .ref m28, .ref m29, .int v30, .ref m31, .ref m32, .ref m33, .int v34, .int v35, .int v36, .ref m37, .ref m38, .ref m39, .ref m40, .long v41])), (m5, .inl (k 1, 1000, .inl f5))] H1 := hP
          have hD : va_D A [(mo, .inr (12, [.int v0, .ref m1, .ref m2, .ref m3, .ref m4, .ref m5, .int v6, .int v7, .int v8, .int v7, .int 0, .long 0, .int v12, .int v13, .int v14, .int v15, .ref m16, .ref m17, .ref m18, .ref m19, .ref m20, .ref m21, .ref m22, .ref m23, .int v24, .ref m25, .ref m26, .ref m27, .ref m28, .ref m29, .int v30, .ref m31, .ref m32, .ref m33, .int v34, .int v35, .int v36, .ref m37, .ref m38, .ref m39, .ref m40, .long v41])), (m5, .inl (k 1, 1000, .inl f5))] := hD
          generalize H1 = H at hP hS ⊢
          have hw_112 : (0 ≤ r_111.toInt ∧ r_111.toInt ≤ 1) ∧ (r_111 = isByteOf f5 v6 v7 48 57) ∧ ((r_111.toInt = 1 ∧ v7.toInt < v6.toInt) ∨ r_111.toInt = 0) := hw
          obtain ⟨hw_113, hw_114, hw_115⟩ := hw_112
          clear hw
          refine lv_if_eq (tgt := 274) hx hb dX12_next_200 (by decide) (fun h_116 => ?_) (fun h_116 => ?_)
          · skip
            have zh_116 : r_111.toInt = 0 := z_eq h_116
            refine lv_aload_n hx hb dX12_next_274 rfl (lv_at hl 0 rfl) ?_
            refine lv_aload_n hx hb dX12_next_275 rfl (lv_at hl 0 rfl) ?_
            refine va_get (D := D) (ci := 12) (v := .ref m5) (C := RX12) (T := TX12) (N := 42) hx hb hts iT_X12 hown hK hP 0 rfl rfl 5 (by decide) (hts _ tw_6_58) (fun _ h9 => h9) rfl dX12_next_276 ?_
            refine lv_aload_n hx hb dX12_next_279 rfl (lv_at hl 0 rfl) ?_
            refine va_get (D := D) (ci := 12) (v := .int v7) (C := RX12) (T := TX12) (N := 42) hx hb hts iT_X12 hown hK hP 0 rfl rfl 7 (by decide) (hts _ tw_6_60) (fun _ h9 => h9) rfl dX12_next_280 ?_
            refine va_bald hx hb hK hP 1 1 rfl rfl (z_in (by omega) (by omega)) dX12_next_283 ?_
            refine lv_topi (fun x_117 ex_117 => ?_)
            refine lv_bipush (v := 59) hx hb dX12_next_284 (by decide) ?_
            refine lv_icmp_ne (tgt := 293) hx hb dX12_next_286 (by decide) (fun h_118 => ?_) (fun h_118 => ?_)
            · skip
              have zh_118 : ¬ x_117.toInt = 59 := z_ne h_118
              refine lv_iconst (v := 4) hx hb dX12_next_293 (by decide) ?_
              refine va_put (D := D) (ci := 12) (v := .int 4) (ty := tyX12 8) (C := RX12) (T := TX12) (N := 42) hx hb hts iT_X12 tyX12 tyX12_ok nmX12 hown hK hP hD hS 0 rfl rfl 8 (by decide) (hts _ tw_6_61) (fun _ h9 => h9) rfl (tyX12_ok 8 (by decide)) rfl rfl (Nat.le_of_ble_eq_true rfl) dX12_next_294 (fun H locs hP hD hS => ?_)
              have hP : va_P D vwCl [(mo, .inr (12, [.int v0, .ref m1, .ref m2, .ref m3, .ref m4, .ref m5, .int v6, .int v7, .int 4, .int v7, .int 0, .long 0, .int v12, .int v13, .int v14, .int v15, .ref m16, .ref m17, .ref m18, .ref m19, .ref m20, .ref m21, .ref m22, .ref m23, .int v24, .ref m25, .ref m26, .ref m27, .ref m28, .ref m29, .int v30, .ref m31, .ref m32, .ref m33, .int v34, .int v35, .int v36, .ref m37, .ref m38, .ref m39, .ref m40, .long v41])), (m5, .inl (k 1, 1000, .inl f5))] H := hP
              have hD : va_D A [(mo, .inr (12, [.int v0, .ref m1, .ref m2, .ref m3, .ref m4, .ref m5, .int v6, .int v7, .int 4, .int v7, .int 0, .long 0, .int v12, .int v13, .int v14, .int v15, .ref m16, .ref m17, .ref m18, .ref m19, .ref m20, .ref m21, .ref m22, .ref m23, .int v24, .ref m25, .ref m26, .ref m27, .ref m28, .ref m29, .int v30, .ref m31, .ref m32, .ref m33, .int v34, .int v35, .int v36, .ref m37, .ref m38, .ref m39, .ref m40, .long v41])), (m5, .inl (k 1, 1000, .inl f5))] := hD
              refine lv_aload_n hx hb dX12_next_297 rfl (lv_at hl 0 rfl) ?_
              refine lv_dup hx hb dX12_next_298 rfl ?_
              refine va_get (D := D) (ci := 12) (v := .int v7) (C := RX12) (T := TX12) (N := 42) hx hb hts iT_X12 hown hK hP 0 rfl rfl 7 (by decide) (hts _ tw_6_60) (fun _ h9 => h9) rfl dX12_next_299 ?_
              refine lv_iconst (v := 1) hx hb dX12_next_302 (by decide) ?_
              refine lv_iadd hx hb dX12_next_303 ?_
              refine lv_topi (fun x_119 ex_119 => ?_)
              have zx_119 : x_119.toInt = v7.toInt + 1 := by rw [ex_119]; exact z_add rfl rfl (by omega) (by omega)
              refine va_put (D := D) (ci := 12) (v := .int x_119) (ty := tyX12 7) (C := RX12) (T := TX12) (N := 42) hx hb hts iT_X12 tyX12 tyX12_ok nmX12 hown hK hP hD hS 0 rfl rfl 7 (by decide) (hts _ tw_6_60) (fun _ h9 => h9) rfl (tyX12_ok 7 (by decide)) rfl rfl (Nat.le_of_ble_eq_true rfl) dX12_next_304 (fun H locs hP hD hS => ?_)
              have hP : va_P D vwCl [(mo, .inr (12, [.int v0, .ref m1, .ref m2, .ref m3, .ref m4, .ref m5, .int v6, .int x_119, .int 4, .int v7, .int 0, .long 0, .int v12, .int v13, .int v14, .int v15, .ref m16, .ref m17, .ref m18, .ref m19, .ref m20, .ref m21, .ref m22, .ref m23, .int v24, .ref m25, .ref m26, .ref m27, .ref m28, .ref m29, .int v30, .ref m31, .ref m32, .ref m33, .int v34, .int v35, .int v36, .ref m37, .ref m38, .ref m39, .ref m40, .long v41])), (m5, .inl (k 1, 1000, .inl f5))] H := hP
              have hD : va_D A [(mo, .inr (12, [.int v0, .ref m1, .ref m2, .ref m3, .ref m4, .ref m5, .int v6, .int x_119, .int 4, .int v7, .int 0, .long 0, .int v12, .int v13, .int v14, .int v15, .ref m16, .ref m17, .ref m18, .ref m19, .ref m20, .ref m21, .ref m22, .ref m23, .int v24, .ref m25, .ref m26, .ref m27, .ref m28, .ref m29, .int v30, .ref m31, .ref m32, .ref m33, .int v34, .int v35, .int v36, .ref m37, .ref m38, .ref m39, .ref m40, .long v41])), (m5, .inl (k 1, 1000, .inl f5))] := hD
              obtain ⟨hP9, hD9⟩ := sub2 hP hD (ws' := [(mo, .inr (12, [.int v0, .ref m1, .ref m2, .ref m3, .ref m4, .ref m5, .int v6, .int x_119, .int 4, .int v7, .int 0, .long 0, .int v12, .int v13, .int v14, .int v15, .ref m16, .ref m17, .ref m18, .ref m19, .ref m20, .ref m21, .ref m22, .ref m23, .int v24, .ref m25, .ref m26, .ref m27, .ref m28, .ref m29, .int v30, .ref m31, .ref m32, .ref m33, .int v34, .int v35, .int v36, .ref m37, .ref m38, .ref m39, .ref m40, .long v41])), (m5, .inl (k 1, 1000, .inl f5))]) [0, 1] (by decide +kernel) rfl
              exact W.vret hx hb hr (fun tZ ht hW => ⟨⟨(x_119, 4, v7, 0, 0), rfl, ⟨(show 0 ≤ x_119.toInt ∧ x_119.toInt ≤ 1000 from by omega), (show 0 ≤ 4 ∧ 4 ≤ 4 from by omega), (show 0 ≤ v7.toInt ∧ v7.toInt ≤ 1000 from by omega), (show v7.toInt ≤ x_119.toInt ∧ x_119.toInt ≤ v6.toInt from by omega), (show 4 = 0 ∨ v7.toInt < x_119.toInt from by omega)⟩, by rw [ht]; exact hP9, va_K.moved hW.alike hK, hD9⟩, hS.F ht⟩) hS.2.2 dX12_next_307
            · skip
              have zh_118 : x_117.toInt = 59 := z_eq h_118
              refine lv_iconst (v := 3) hx hb dX12_next_289 (by decide) ?_
              refine lv_goto (tgt := 294) hx hb dX12_next_290 (by decide) ?_
              refine va_put (D := D) (ci := 12) (v := .int 3) (ty := tyX12 8) (C := RX12) (T := TX12) (N := 42) hx hb hts iT_X12 tyX12 tyX12_ok nmX12 hown hK hP hD hS 0 rfl rfl 8 (by decide) (hts _ tw_6_61) (fun _ h9 => h9) rfl (tyX12_ok 8 (by decide)) rfl rfl (Nat.le_of_ble_eq_true rfl) dX12_next_294 (fun H locs hP hD hS => ?_)
              have hP : va_P D vwCl [(mo, .inr (12, [.int v0, .ref m1, .ref m2, .ref m3, .ref m4, .ref m5, .int v6, .int v7, .int 3, .int v7, .int 0, .long 0, .int v12, .int v13, .int v14, .int v15, .ref m16, .ref m17, .ref m18, .ref m19, .ref m20, .ref m21, .ref m22, .ref m23, .int v24, .ref m25, .ref m26, .ref m27, .ref m28, .ref m29, .int v30, .ref m31, .ref m32, .ref m33, .int v34, .int v35, .int v36, .ref m37, .ref m38, .ref m39, .ref m40, .long v41])), (m5, .inl (k 1, 1000, .inl f5))] H := hP
              have hD : va_D A [(mo, .inr (12, [.int v0, .ref m1, .ref m2, .ref m3, .ref m4, .ref m5, .int v6, .int v7, .int 3, .int v7, .int 0, .long 0, .int v12, .int v13, .int v14, .int v15, .ref m16, .ref m17, .ref m18, .ref m19, .ref m20, .ref m21, .ref m22, .ref m23, .int v24, .ref m25, .ref m26, .ref m27, .ref m28, .ref m29, .int v30, .ref m31, .ref m32, .ref m33, .int v34, .int v35, .int v36, .ref m37, .ref m38, .ref m39, .ref m40, .long v41])), (m5, .inl (k 1, 1000, .inl f5))] := hD
              refine lv_aload_n hx hb dX12_next_297 rfl (lv_at hl 0 rfl) ?_
              refine lv_dup hx hb dX12_next_298 rfl ?_
              refine va_get (D := D) (ci := 12) (v := .int v7) (C := RX12) (T := TX12) (N := 42) hx hb hts iT_X12 hown hK hP 0 rfl rfl 7 (by decide) (hts _ tw_6_60) (fun _ h9 => h9) rfl dX12_next_299 ?_
              refine lv_iconst (v := 1) hx hb dX12_next_302 (by decide) ?_
              refine lv_iadd hx hb dX12_next_303 ?_
              refine lv_topi (fun x_120 ex_120 => ?_)
              have zx_120 : x_120.toInt = v7.toInt + 1 := by rw [ex_120]; exact z_add rfl rfl (by omega) (by omega)
              refine va_put (D := D) (ci := 12) (v := .int x_120) (ty := tyX12 7) (C := RX12) (T := TX12) (N := 42) hx hb hts iT_X12 tyX12 tyX12_ok nmX12 hown hK hP hD hS 0 rfl rfl 7 (by decide) (hts _ tw_6_60) (fun _ h9 => h9) rfl (tyX12_ok 7 (by decide)) rfl rfl (Nat.le_of_ble_eq_true rfl) dX12_next_304 (fun H locs hP hD hS => ?_)
              have hP : va_P D vwCl [(mo, .inr (12, [.int v0, .ref m1, .ref m2, .ref m3, .ref m4, .ref m5, .int v6, .int x_120, .int 3, .int v7, .int 0, .long 0, .int v12, .int v13, .int v14, .int v15, .ref m16, .ref m17, .ref m18, .ref m19, .ref m20, .ref m21, .ref m22, .ref m23, .int v24, .ref m25, .ref m26, .ref m27, .ref m28, .ref m29, .int v30, .ref m31, .ref m32, .ref m33, .int v34, .int v35, .int v36, .ref m37, .ref m38, .ref m39, .ref m40, .long v41])), (m5, .inl (k 1, 1000, .inl f5))] H := hP
              have hD : va_D A [(mo, .inr (12, [.int v0, .ref m1, .ref m2, .ref m3, .ref m4, .ref m5, .int v6, .int x_120, .int 3, .int v7, .int 0, .long 0, .int v12, .int v13, .int v14, .int v15, .ref m16, .ref m17, .ref m18, .ref m19, .ref m20, .ref m21, .ref m22, .ref m23, .int v24, .ref m25, .ref m26, .ref m27, .ref m28, .ref m29, .int v30, .ref m31, .ref m32, .ref m33, .int v34, .int v35, .int v36, .ref m37, .ref m38, .ref m39, .ref m40, .long v41])), (m5, .inl (k 1, 1000, .inl f5))] := hD
              obtain ⟨hP9, hD9⟩ := sub2 hP hD (ws' := [(mo, .inr (12, [.int v0, .ref m1, .ref m2, .ref m3, .ref m4, .ref m5, .int v6, .int x_120, .int 3, .int v7, .int 0, .long 0, .int v12, .int v13, .int v14, .int v15, .ref m16, .ref m17, .ref m18, .ref m19, .ref m20, .ref m21, .ref m22, .ref m23, .int v24, .ref m25, .ref m26, .ref m27, .ref m28, .ref m29, .int v30, .ref m31, .ref m32, .ref m33, .int v34, .int v35, .int v36, .ref m37, .ref m38, .ref m39, .ref m40, .long v41])), (m5, .inl (k 1, 1000, .inl f5))]) [0, 1] (by decide +kernel) rfl
              exact W.vret hx hb hr (fun tZ ht hW => ⟨⟨(x_120, 3, v7, 0, 0), rfl, ⟨(show 0 ≤ x_120.toInt ∧ x_120.toInt ≤ 1000 from by omega), (show 0 ≤ 3 ∧ 3 ≤ 4 from by omega), (show 0 ≤ v7.toInt ∧ v7.toInt ≤ 1000 from by omega), (show v7.toInt ≤ x_120.toInt ∧ x_120.toInt ≤ v6.toInt from by omega), (show 3 = 0 ∨ v7.toInt < x_120.toInt from by omega)⟩, by rw [ht]; exact hP9, va_K.moved hW.alike hK, hD9⟩, hS.F ht⟩) hS.2.2 dX12_next_307
          · skip
            have zh_116 : ¬ r_111.toInt = 0 := z_ne h_116
            refine lv_aload_n hx hb dX12_next_203 rfl (lv_at hl 0 rfl) ?_
            refine lv_iconst (v := 2) hx hb dX12_next_204 (by decide) ?_
            refine va_put (D := D) (ci := 12) (v := .int 2) (ty := tyX12 8) (C := RX12) (T := TX12) (N := 42) hx hb hts iT_X12 tyX12 tyX12_ok nmX12 hown hK hP hD hS 0 rfl rfl 8 (by decide) (hts _ tw_6_61) (fun _ h9 => h9) rfl (tyX12_ok 8 (by decide)) rfl rfl (Nat.le_of_ble_eq_true rfl) dX12_next_205 (fun H locs hP hD hS => ?_)
            have hP : va_P D vwCl [(mo, .inr (12, [.int v0, .ref m1, .ref m2, .ref m3, .ref m4, .ref m5, .int v6, .int v7, .int 2, .int v7, .int 0, .long 0, .int v12, .int v13, .int v14, .int v15, .ref m16, .ref m17, .ref m18, .ref m19, .ref m20, .ref m21, .ref m22, .ref m23, .int v24, .ref m25, .ref m26, .ref m27, .ref m28, .ref m29, .int v30, .ref m31, .ref m32, .ref m33, .int v34, .int v35, .int v36, .ref m37, .ref m38, .ref m39, .ref m40, .long v41])), (m5, .inl (k 1, 1000, .inl f5))] H := hP
            have hD : va_D A [(mo, .inr (12, [.int v0, .ref m1, .ref m2, .ref m3, .ref m4, .ref m5, .int v6, .int v7, .int 2, .int v7, .int 0, .long 0, .int v12, .int v13, .int v14, .int v15, .ref m16, .ref m17, .ref m18, .ref m19, .ref m20, .ref m21, .ref m22, .ref m23, .int v24, .ref m25, .ref m26, .ref m27, .ref m28, .ref m29, .int v30, .ref m31, .ref m32, .ref m33, .int v34, .int v35, .int v36, .ref m37, .ref m38, .ref m39, .ref m40, .long v41])), (m5, .inl (k 1, 1000, .inl f5))] := hD
            refine lv_aload_n hx hb dX12_next_208 rfl (lv_at hl 0 rfl) ?_
            refine lv_aload_n hx hb dX12_next_209 rfl (lv_at hl 0 rfl) ?_
            refine va_get (D := D) (ci := 12) (v := .int v7) (C := RX12) (T := TX12) (N := 42) hx hb hts iT_X12 hown hK hP 0 rfl rfl 7 (by decide) (hts _ tw_6_60) (fun _ h9 => h9) rfl dX12_next_210 ?_
            refine lv_bipush (v := 48) hx hb dX12_next_213 (by decide) ?_
            refine lv_bipush (v := 57) hx hb dX12_next_215 (by decide) ?_
            obtain ⟨hPc, hDc, hFc⟩ := sub3 hP hD hS hA (ws' := [(mo, .inr (12, [.int v0, .ref m1, .ref m2, .ref m3, .ref m4, .ref m5, .int v6, .int v7, .int 2, .int v7, .int 0, .long 0, .int v12, .int v13, .int v14, .int v15, .ref m16, .ref m17, .ref m18, .ref m19, .ref m20, .ref m21, .ref m22, .ref m23, .int v24, .ref m25, .ref m26, .ref m27, .ref m28, .ref m29, .int v30, .ref m31, .ref m32, .ref m33, .int v34, .int v35, .int v36, .ref m37, .ref m38, .ref m39, .ref m40, .long v41])), (m5, .inl (k 1, 1000, .inl f5))]) [0, 1] (by decide +kernel) rfl
            refine va_calli (va_runV (C := RX12) (As := [.int v7, .int 48, .int 57]) (rest := []) ⟨hx, hb, hml, hown, hts⟩ (c_X12_isByte l D k mo v7 48 57 v0 m1 m2 m3 m4 m5 v6 v7 2 v7 0 0 v12 v13 v14 v15 m16 m17 m18 m19 m20 m21 m22 m23 v24 m25 m26 m27 m28 m29 v30 m31 m32 m33 v34 v35 v36 m37 m38 m39 m40 v41 f5 H.size (show 0 ≤ v7.toInt ∧ v7.toInt ≤ 1000 from by omega) (show 0 ≤ v6.toInt ∧ v6.toInt ≤ 1000 from by omega) (show 0 ≤ v24.toInt ∧ v24.toInt ≤ 1023 from by omega)) (cwV 3 hts (gV tw_6_238 tw_7_0 tw_p_40 tw_1_13 tw_7_1) rfl rfl rfl hdV_X12_isByte ⟨Nat.le_of_ble_eq_true rfl, Nat.le_of_ble_eq_true rfl⟩) (cz_V hK hPc hDc hN (ci := 12) (q0 := 0) rfl rfl [.int v7, .int 48, .int 57]) rfl rfl hl.1 rfl (lv_room (Nat.le_of_ble_eq_true rfl)) dX12_next_217 ⟨Nat.le_of_ble_eq_true rfl, Nat.le_of_ble_eq_true rfl⟩) hS (fun q _ h => hFc q h) hFc (fun r_121 uZ tZ H1 locs ht hvm hw hB hz1 hk1 hS => ?_)
            obtain ⟨hP1, hK1, hD1⟩ := hB
            rw [ht] at hP1
            obtain ⟨hP, hD⟩ := va_join (wr := []) (w1 := [(mo, .inr (12, [.int v0, .ref m1, .ref m2, .ref m3, .ref m4, .ref m5, .int v6, .int v7, .int 2, .int v7, .int 0, .long 0, .int v12, .int v13, .int v14, .int v15, .ref m16, .ref m17, .ref m18, .ref m19, .ref m20, .ref m21, .ref m22, .ref m23, .int v24, .ref m25, .ref m26, .ref m27, .ref m28, .ref m29, .int v30, .ref m31, .ref m32, .ref m33, .int v34, .int v35, .int v36, .ref m37, .ref m38, .ref m39, .ref m40, .long v41])), (m5, .inl (k 1, 1000, .inl f5))]) hP hD [0, 1] [] rfl rfl (by decide +kernel) (by decide +kernel) hk1 hFc hP1 hD1
            clear hK1 hP1 hD1 hPc hDc hFc
            clear hk1 hz1 ht hvm
            have hP : va_P D vwCl [(mo, .inr (12, [.int v0, .ref m1, .ref m2, .ref m3, .ref m4, .ref m5, .int v6, .int v7, .int 2, .int v7, .int 0, .long 0, .int v12, .int v13, .int v14, .int v15, .ref m16, .ref m17, .ref m18, .ref m19, .ref m20, .ref m21, .ref m22, .ref m23, .int v24, .ref m25, .ref m26, .ref m27, .ref m28, .ref m29, .int v30, .ref m31, .ref m32, .ref m33, .int v34, .int v35, .int v36, .ref m37, .ref m38, .ref m39, .ref m40, .long v41])), (m5, .inl (k 1, 1000, .inl f5))] H1 := hP
            have hD : va_D A [(mo, .inr (12, [.int v0, .ref m1, .ref m2, .ref m3, .ref m4, .ref m5, .int v6, .int v7, .int 2, .int v7, .int 0, .long 0, .int v12, .int v13, .int v14, .int v15, .ref m16, .ref m17, .ref m18, .ref m19, .ref m20, .ref m21, .ref m22, .ref m23, .int v24, .ref m25, .ref m26, .ref m27, .ref m28, .ref m29, .int v30, .ref m31, .ref m32, .ref m33, .int v34, .int v35, .int v36, .ref m37, .ref m38, .ref m39, .ref m40, .long v41])), (m5, .inl (k 1, 1000, .inl f5))] := hD
            generalize H1 = H at hP hS ⊢
            have hw_122 : (0 ≤ r_121.toInt ∧ r_121.toInt ≤ 1) ∧ (r_121 = isByteOf f5 v6 v7 48 57) ∧ ((r_121.toInt = 1 ∧ v7.toInt < v6.toInt) ∨ r_121.toInt = 0) := hw
            obtain ⟨hw_123, hw_124, hw_125⟩ := hw_122
            clear hw
            obtain rfl : r_111 = r_121 := hw_114.trans hw_124.symm
            refine lv_if_eq (tgt := 307) hx hb dX12_next_220 (by decide) (fun h_126 => ?_) (fun h_126 => ?_)
            · skip
              have zh_126 : r_111.toInt = 0 := z_eq h_126
              exact False.elim (by omega)
            · skip
              have zh_126 : ¬ r_111.toInt = 0 := z_ne h_126
              refine lv_aload_n hx hb dX12_next_223 rfl (lv_at hl 0 rfl) ?_
              refine lv_aload_n hx hb dX12_next_224 rfl (lv_at hl 0 rfl) ?_
              refine va_get (D := D) (ci := 12) (v := .int 0) (C := RX12) (T := TX12) (N := 42) hx hb hts iT_X12 hown hK hP 0 rfl rfl 10 (by decide) (hts _ tw_6_63) (fun _ h9 => h9) rfl dX12_next_225 ?_
              refine lv_ldc (v := 100000) hx hb hown (hts _ tw_7_5) dX12_next_228 ?_
              refine lv_icmp_le (tgt := 238) hx hb dX12_next_230 (by decide) (fun _ => ?_) (fun c9 => absurd c9 (by decide))
              refine lv_bipush (v := 10) hx hb dX12_next_238 (by decide) ?_
              refine lv_aload_n hx hb dX12_next_240 rfl (lv_at hl 0 rfl) ?_
              refine va_get (D := D) (ci := 12) (v := .int 0) (C := RX12) (T := TX12) (N := 42) hx hb hts iT_X12 hown hK hP 0 rfl rfl 10 (by decide) (hts _ tw_6_63) (fun _ h9 => h9) rfl dX12_next_241 ?_
              refine lv_imul hx hb dX12_next_244 ?_
              refine lv_topi (fun x_127 ex_127 => ?_)
              obtain rfl : x_127 = 0 := ex_127.trans (by decide)
              refine lv_aload_n hx hb dX12_next_245 rfl (lv_at hl 0 rfl) ?_
              refine va_get (D := D) (ci := 12) (v := .ref m5) (C := RX12) (T := TX12) (N := 42) hx hb hts iT_X12 hown hK hP 0 rfl rfl 5 (by decide) (hts _ tw_6_58) (fun _ h9 => h9) rfl dX12_next_246 ?_
              refine lv_aload_n hx hb dX12_next_249 rfl (lv_at hl 0 rfl) ?_
              refine va_get (D := D) (ci := 12) (v := .int v7) (C := RX12) (T := TX12) (N := 42) hx hb hts iT_X12 hown hK hP 0 rfl rfl 7 (by decide) (hts _ tw_6_60) (fun _ h9 => h9) rfl dX12_next_250 ?_
              refine va_bald hx hb hK hP 1 1 rfl rfl (z_in (by omega) (by omega)) dX12_next_253 ?_
              refine lv_topi (fun x_128 ex_128 => ?_)
              refine lv_iadd hx hb dX12_next_254 ?_
              refine lv_topi (fun x_129 ex_129 => ?_)
              have zrx_128 := z_rng x_128
              have zx_129 : x_129.toInt = 0 + x_128.toInt := by rw [ex_129]; exact z_add rfl rfl (by omega) (by omega)
              refine lv_bipush (v := 48) hx hb dX12_next_255 (by decide) ?_
              refine lv_isub hx hb dX12_next_257 ?_
              refine lv_topi (fun x_130 ex_130 => ?_)
              have zrx_129 := z_rng x_129
              refine va_put (D := D) (ci := 12) (v := .int x_130) (ty := tyX12 10) (C := RX12) (T := TX12) (N := 42) hx hb hts iT_X12 tyX12 tyX12_ok nmX12 hown hK hP hD hS 0 rfl rfl 10 (by decide) (hts _ tw_6_63) (fun _ h9 => h9) rfl (tyX12_ok 10 (by decide)) rfl rfl (Nat.le_of_ble_eq_true rfl) dX12_next_258 (fun H locs hP hD hS => ?_)
              have hP : va_P D vwCl [(mo, .inr (12, [.int v0, .ref m1, .ref m2, .ref m3, .ref m4, .ref m5, .int v6, .int v7, .int 2, .int v7, .int x_130, .long 0, .int v12, .int v13, .int v14, .int v15, .ref m16, .ref m17, .ref m18, .ref m19, .ref m20, .ref m21, .ref m22, .ref m23, .int v24, .ref m25, .ref m26, .ref m27, .ref m28, .ref m29, .int v30, .ref m31, .ref m32, .ref m33, .int v34, .int v35, .int v36, .ref m37, .ref m38, .ref m39, .ref m40, .long v41])), (m5, .inl (k 1, 1000, .inl f5))] H := hP
              have hD : va_D A [(mo, .inr (12, [.int v0, .ref m1, .ref m2, .ref m3, .ref m4, .ref m5, .int v6, .int v7, .int 2, .int v7, .int x_130, .long 0, .int v12, .int v13, .int v14, .int v15, .ref m16, .ref m17, .ref m18, .ref m19, .ref m20, .ref m21, .ref m22, .ref m23, .int v24, .ref m25, .ref m26, .ref m27, .ref m28, .ref m29, .int v30, .ref m31, .ref m32, .ref m33, .int v34, .int v35, .int v36, .ref m37, .ref m38, .ref m39, .ref m40, .long v41])), (m5, .inl (k 1, 1000, .inl f5))] := hD
              refine lv_aload_n hx hb dX12_next_261 rfl (lv_at hl 0 rfl) ?_
              refine lv_dup hx hb dX12_next_262 rfl ?_
              refine va_get (D := D) (ci := 12) (v := .int v7) (C := RX12) (T := TX12) (N := 42) hx hb hts iT_X12 hown hK hP 0 rfl rfl 7 (by decide) (hts _ tw_6_60) (fun _ h9 => h9) rfl dX12_next_263 ?_
              refine lv_iconst (v := 1) hx hb dX12_next_266 (by decide) ?_
              refine lv_iadd hx hb dX12_next_267 ?_
              refine lv_topi (fun x_131 ex_131 => ?_)
              have zx_131 : x_131.toInt = v7.toInt + 1 := by rw [ex_131]; exact z_add rfl rfl (by omega) (by omega)
              refine va_put (D := D) (ci := 12) (v := .int x_131) (ty := tyX12 7) (C := RX12) (T := TX12) (N := 42) hx hb hts iT_X12 tyX12 tyX12_ok nmX12 hown hK hP hD hS 0 rfl rfl 7 (by decide) (hts _ tw_6_60) (fun _ h9 => h9) rfl (tyX12_ok 7 (by decide)) rfl rfl (Nat.le_of_ble_eq_true rfl) dX12_next_268 (fun H locs hP hD hS => ?_)
              have hP : va_P D vwCl [(mo, .inr (12, [.int v0, .ref m1, .ref m2, .ref m3, .ref m4, .ref m5, .int v6, .int x_131, .int 2, .int v7, .int x_130, .long 0, .int v12, .int v13, .int v14, .int v15, .ref m16, .ref m17, .ref m18, .ref m19, .ref m20, .ref m21, .ref m22, .ref m23, .int v24, .ref m25, .ref m26, .ref m27, .ref m28, .ref m29, .int v30, .ref m31, .ref m32, .ref m33, .int v34, .int v35, .int v36, .ref m37, .ref m38, .ref m39, .ref m40, .long v41])), (m5, .inl (k 1, 1000, .inl f5))] H := hP
              have hD : va_D A [(mo, .inr (12, [.int v0, .ref m1, .ref m2, .ref m3, .ref m4, .ref m5, .int v6, .int x_131, .int 2, .int v7, .int x_130, .long 0, .int v12, .int v13, .int v14, .int v15, .ref m16, .ref m17, .ref m18, .ref m19, .ref m20, .ref m21, .ref m22, .ref m23, .int v24, .ref m25, .ref m26, .ref m27, .ref m28, .ref m29, .int v30, .ref m31, .ref m32, .ref m33, .int v34, .int v35, .int v36, .ref m37, .ref m38, .ref m39, .ref m40, .long v41])), (m5, .inl (k 1, 1000, .inl f5))] := hD
              refine lv_goto (tgt := 208) hx hb dX12_next_271 (by decide) ?_
              refine loop_r (Wg := fun H locs ls => W p l e _ s m _ below meth c H locs _ _ _ (F0 m 208 ls [])) (fun n9 H locs ls => ∃ (L208f0x7 : Int32) (L208f0x10 : Int32), n9 = (1000 - L208f0x7.toInt).toNat ∧ (1 ≤ L208f0x7.toInt ∧ L208f0x7.toInt ≤ 1000) ∧ (L208f0x7.toInt ≤ v6.toInt) ∧ (v7.toInt < L208f0x7.toInt) ∧ va_P D vwCl [(mo, .inr (12, [.int v0, .ref m1, .ref m2, .ref m3, .ref m4, .ref m5, .int v6, .int L208f0x7, .int 2, .int v7, .int L208f0x10, .long 0, .int v12, .int v13, .int v14, .int v15, .ref m16, .ref m17, .ref m18, .ref m19, .ref m20, .ref m21, .ref m22, .ref m23, .int v24, .ref m25, .ref m26, .ref m27, .ref m28, .ref m29, .int v30, .ref m31, .ref m32, .ref m33, .int v34, .int v35, .int v36, .ref m37, .ref m38, .ref m39, .ref m40, .long v41])), (m5, .inl (k 1, 1000, .inl f5))] H ∧ va_D A [(mo, .inr (12, [.int v0, .ref m1, .ref m2, .ref m3, .ref m4, .ref m5, .int v6, .int L208f0x7, .int 2, .int v7, .int L208f0x10, .long 0, .int v12, .int v13, .int v14, .int v15, .ref m16, .ref m17, .ref m18, .ref m19, .ref m20, .ref m21, .ref m22, .ref m23, .int v24, .ref m25, .ref m26, .ref m27, .ref m28, .ref m29, .int v30, .ref m31, .ref m32, .ref m33, .int v34, .int v35, .int v36, .ref m37, .ref m38, .ref m39, .ref m40, .long v41])), (m5, .inl (k 1, 1000, .inl f5))] ∧ va_S A s.heap H locs ∧ lv_has ls 2 [(0, .ref mo)]) (fun n9 H locs ls hI ih_132 => ?_) _ _ _ _ ⟨x_131, x_130, rfl, (show 1 ≤ x_131.toInt ∧ x_131.toInt ≤ 1000 from by omega), (show x_131.toInt ≤ v6.toInt from by omega), (show v7.toInt < x_131.toInt from by omega), hP.sub (ws' := [(mo, .inr (12, [.int v0, .ref m1, .ref m2, .ref m3, .ref m4, .ref m5, .int v6, .int x_131, .int 2, .int v7, .int x_130, .long 0, .int v12, .int v13, .int v14, .int v15, .ref m16, .ref m17, .ref m18, .ref m19, .ref m20, .ref m21, .ref m22, .ref m23, .int v24, .ref m25, .ref m26, .ref m27, .ref m28, .ref m29, .int v30, .ref m31, .ref m32, .ref m33, .int v34, .int v35, .int v36, .ref m37, .ref m38, .ref m39, .ref m40, .long v41])), (m5, .inl (k 1, 1000, .inl f5))]) [0, 1] rfl, hD.sub (ws' := [(mo, .inr (12, [.int v0, .ref m1, .ref m2, .ref m3, .ref m4, .ref m5, .int v6, .int x_131, .int 2, .int v7, .int x_130, .long 0, .int v12, .int v13, .int v14, .int v15, .ref m16, .ref m17, .ref m18, .ref m19, .ref m20, .ref m21, .ref m22, .ref m23, .int v24, .ref m25, .ref m26, .ref m27, .ref m28, .ref m29, .int v30, .ref m31, .ref m32, .ref m33, .int v34, .int v35, .int v36, .ref m37, .ref m38, .ref m39, .ref m40, .long v41])), (m5, .inl (k 1, 1000, .inl f5))]) [0, 1] (by decide +kernel) rfl, hS, lv_sub hl [0] rfl⟩
              clear hP hD hS hl
              obtain ⟨L208f0x7, L208f0x10, en_133, zL208f0x7, hi208x0, hi208x1, hP, hD, hS, hl⟩ := hI
              refine lv_aload_n hx hb dX12_next_208 rfl (lv_at hl 0 rfl) ?_
              refine lv_aload_n hx hb dX12_next_209 rfl (lv_at hl 0 rfl) ?_
              refine va_get (D := D) (ci := 12) (v := .int L208f0x7) (C := RX12) (T := TX12) (N := 42) hx hb hts iT_X12 hown hK hP 0 rfl rfl 7 (by decide) (hts _ tw_6_60) (fun _ h9 => h9) rfl dX12_next_210 ?_
              refine lv_bipush (v := 48) hx hb dX12_next_213 (by decide) ?_
              refine lv_bipush (v := 57) hx hb dX12_next_215 (by decide) ?_
              obtain ⟨hPc, hDc, hFc⟩ := sub3 hP hD hS hA (ws' := [(mo, .inr (12, [.int v0, .ref m1, .ref m2, .ref m3, .ref m4, .ref m5, .int v6, .int L208f0x7, .int 2, .int v7, .int L208f0x10, .long 0, .int v12, .int v13, .int v14, .int v15, .ref m16, .ref m17, .ref m18, .ref m19, .ref m20, .ref m21, .ref m22, .ref m23, .int v24, .ref m25, .ref m26, .ref m27, .ref m28, .ref m29, .int v30, .ref m31, .ref m32, .ref m33, .int v34, .int v35, .int v36, .ref m37, .ref m38, .ref m39, .ref m40, .long v41])), (m5, .inl (k 1, 1000, .inl f5))]) [0, 1] (by decide +kernel) rfl
              refine va_calli (va_runV (C := RX12) (As := [.int L208f0x7, .int 48, .int 57]) (rest := []) ⟨hx, hb, hml, hown, hts⟩ (c_X12_isByte l D k mo L208f0x7 48 57 v0 m1 m2 m3 m4 m5 v6 L208f0x7 2 v7 L208f0x10 0 v12 v13 v14 v15 m16 m17 m18 m19 m20 m21 m22 m23 v24 m25 m26 m27 m28 m29 v30 m31 m32 m33 v34 v35 v36 m37 m38 m39 m40 v41 f5 H.size (show 0 ≤ L208f0x7.toInt ∧ L208f0x7.toInt ≤ 1000 from by omega) (show 0 ≤ v6.toInt ∧ v6.toInt ≤ 1000 from by omega) (show 0 ≤ v24.toInt ∧ v24.toInt ≤ 1023 from by omega)) (cwV 3 hts (gV tw_6_238 tw_7_0 tw_p_40 tw_1_13 tw_7_1) rfl rfl rfl hdV_X12_isByte ⟨Nat.le_of_ble_eq_true rfl, Nat.le_of_ble_eq_true rfl⟩) (cz_V hK hPc hDc hN (ci := 12) (q0 := 0) rfl rfl [.int L208f0x7, .int 48, .int 57]) rfl rfl hl.1 rfl (lv_room (Nat.le_of_ble_eq_true rfl)) dX12_next_217 ⟨Nat.le_of_ble_eq_true rfl, Nat.le_of_ble_eq_true rfl⟩) hS (fun q _ h => hFc q h) hFc (fun r_134 uZ tZ H1 locs ht hvm hw hB hz1 hk1 hS => ?_)
              obtain ⟨hP1, hK1, hD1⟩ := hB
              rw [ht] at hP1
              obtain ⟨hP, hD⟩ := va_join (wr := []) (w1 := [(mo, .inr (12, [.int v0, .ref m1, .ref m2, .ref m3, .ref m4, .ref m5, .int v6, .int L208f0x7, .int 2, .int v7, .int L208f0x10, .long 0, .int v12, .int v13, .int v14, .int v15, .ref m16, .ref m17, .ref m18, .ref m19, .ref m20, .ref m21, .ref m22, .ref m23, .int v24, .ref m25, .ref m26, .ref m27, .ref m28, .ref m29, .int v30, .ref m31, .ref m32, .ref m33, .int v34, .int v35, .int v36, .ref m37, .ref m38, .ref m39, .ref m40, .long v41])), (m5, .inl (k 1, 1000, .inl f5))]) hP hD [0, 1] [] rfl rfl (by decide +kernel) (by decide +kernel) hk1 hFc hP1 hD1
              clear hK1 hP1 hD1 hPc hDc hFc
              clear hk1 hz1 ht hvm
              have hP : va_P D vwCl [(mo, .inr (12, [.int v0, .ref m1, .ref m2, .ref m3, .ref m4, .ref m5, .int v6, .int L208f0x7, .int 2, .int v7, .int L208f0x10, .long 0, .int v12, .int v13, .int v14, .int v15, .ref m16, .ref m17, .ref m18, .ref m19, .ref m20, .ref m21, .ref m22, .ref m23, .int v24, .ref m25, .ref m26, .ref m27, .ref m28, .ref m29, .int v30, .ref m31, .ref m32, .ref m33, .int v34, .int v35, .int v36, .ref m37, .ref m38, .ref m39, .ref m40, .long v41])), (m5, .inl (k 1, 1000, .inl f5))] H1 := hP
              have hD : va_D A [(mo, .inr (12, [.int v0, .ref m1, .ref m2, .ref m3, .ref m4, .ref m5, .int v6, .int L208f0x7, .int 2, .int v7, .int L208f0x10, .long 0, .int v12, .int v13, .int v14, .int v15, .ref m16, .ref m17, .ref m18, .ref m19, .ref m20, .ref m21, .ref m22, .ref m23, .int v24, .ref m25, .ref m26, .ref m27, .ref m28, .ref m29, .int v30, .ref m31, .ref m32, .ref m33, .int v34, .int v35, .int v36, .ref m37, .ref m38, .ref m39, .ref m40, .long v41])), (m5, .inl (k 1, 1000, .inl f5))] := hD
              generalize H1 = H at hP hS ⊢
              have hw_135 : (0 ≤ r_134.toInt ∧ r_134.toInt ≤ 1) ∧ (r_134 = isByteOf f5 v6 L208f0x7 48 57) ∧ ((r_134.toInt = 1 ∧ L208f0x7.toInt < v6.toInt) ∨ r_134.toInt = 0) := hw
              obtain ⟨hw_136, hw_137, hw_138⟩ := hw_135
              clear hw
              refine lv_if_eq (tgt := 307) hx hb dX12_next_220 (by decide) (fun h_139 => ?_) (fun h_139 => ?_)
              · skip
                have zh_139 : r_134.toInt = 0 := z_eq h_139
                obtain ⟨hP9, hD9⟩ := sub2 hP hD (ws' := [(mo, .inr (12, [.int v0, .ref m1, .ref m2, .ref m3, .ref m4, .ref m5, .int v6, .int L208f0x7, .int 2, .int v7, .int L208f0x10, .long 0, .int v12, .int v13, .int v14, .int v15, .ref m16, .ref m17, .ref m18, .ref m19, .ref m20, .ref m21, .ref m22, .ref m23, .int v24, .ref m25, .ref m26, .ref m27, .ref m28, .ref m29, .int v30, .ref m31, .ref m32, .ref m33, .int v34, .int v35, .int v36, .ref m37, .ref m38, .ref m39, .ref m40, .long v41])), (m5, .inl (k 1, 1000, .inl f5))]) [0, 1] (by decide +kernel) rfl
                exact W.vret hx hb hr (fun tZ ht hW => ⟨⟨(L208f0x7, 2, v7, L208f0x10, 0), rfl, ⟨(show 0 ≤ L208f0x7.toInt ∧ L208f0x7.toInt ≤ 1000 from by omega), (show 0 ≤ 2 ∧ 2 ≤ 4 from by omega), (show 0 ≤ v7.toInt ∧ v7.toInt ≤ 1000 from by omega), (show v7.toInt ≤ L208f0x7.toInt ∧ L208f0x7.toInt ≤ v6.toInt from by omega), (show 2 = 0 ∨ v7.toInt < L208f0x7.toInt from by omega)⟩, by rw [ht]; exact hP9, va_K.moved hW.alike hK, hD9⟩, hS.F ht⟩) hS.2.2 dX12_next_307
              · skip
                have zh_139 : ¬ r_134.toInt = 0 := z_ne h_139
                refine lv_aload_n hx hb dX12_next_223 rfl (lv_at hl 0 rfl) ?_
                refine lv_aload_n hx hb dX12_next_224 rfl (lv_at hl 0 rfl) ?_
                refine va_get (D := D) (ci := 12) (v := .int L208f0x10) (C := RX12) (T := TX12) (N := 42) hx hb hts iT_X12 hown hK hP 0 rfl rfl 10 (by decide) (hts _ tw_6_63) (fun _ h9 => h9) rfl dX12_next_225 ?_
                refine lv_ldc (v := 100000) hx hb hown (hts _ tw_7_5) dX12_next_228 ?_
                refine lv_icmp_le (tgt := 238) hx hb dX12_next_230 (by decide) (fun h_140 => ?_) (fun h_140 => ?_)
                · skip
                  have zh_140 : L208f0x10.toInt ≤ 100000 := z_le h_140
                  refine lv_bipush (v := 10) hx hb dX12_next_238 (by decide) ?_
                  refine lv_aload_n hx hb dX12_next_240 rfl (lv_at hl 0 rfl) ?_
                  refine va_get (D := D) (ci := 12) (v := .int L208f0x10) (C := RX12) (T := TX12) (N := 42) hx hb hts iT_X12 hown hK hP 0 rfl rfl 10 (by decide) (hts _ tw_6_63) (fun _ h9 => h9) rfl dX12_next_241 ?_
                  refine lv_imul hx hb dX12_next_244 ?_
                  refine lv_topi (fun x_141 ex_141 => ?_)
                  have zrL208f0x10 := z_rng L208f0x10
                  refine lv_aload_n hx hb dX12_next_245 rfl (lv_at hl 0 rfl) ?_
                  refine va_get (D := D) (ci := 12) (v := .ref m5) (C := RX12) (T := TX12) (N := 42) hx hb hts iT_X12 hown hK hP 0 rfl rfl 5 (by decide) (hts _ tw_6_58) (fun _ h9 => h9) rfl dX12_next_246 ?_
                  refine lv_aload_n hx hb dX12_next_249 rfl (lv_at hl 0 rfl) ?_
                  refine va_get (D := D) (ci := 12) (v := .int L208f0x7) (C := RX12) (T := TX12) (N := 42) hx hb hts iT_X12 hown hK hP 0 rfl rfl 7 (by decide) (hts _ tw_6_60) (fun _ h9 => h9) rfl dX12_next_250 ?_
                  refine va_bald hx hb hK hP 1 1 rfl rfl (z_in (by omega) (by omega)) dX12_next_253 ?_
                  refine lv_topi (fun x_142 ex_142 => ?_)
                  refine lv_iadd hx hb dX12_next_254 ?_
                  refine lv_topi (fun x_143 ex_143 => ?_)
                  have zrx_141 := z_rng x_141
                  have zrx_142 := z_rng x_142
                  refine lv_bipush (v := 48) hx hb dX12_next_255 (by decide) ?_
                  refine lv_isub hx hb dX12_next_257 ?_
                  refine lv_topi (fun x_144 ex_144 => ?_)
                  have zrx_143 := z_rng x_143
                  refine va_put (D := D) (ci := 12) (v := .int x_144) (ty := tyX12 10) (C := RX12) (T := TX12) (N := 42) hx hb hts iT_X12 tyX12 tyX12_ok nmX12 hown hK hP hD hS 0 rfl rfl 10 (by decide) (hts _ tw_6_63) (fun _ h9 => h9) rfl (tyX12_ok 10 (by decide)) rfl rfl (Nat.le_of_ble_eq_true rfl) dX12_next_258 (fun H locs hP hD hS => ?_)
                  have hP : va_P D vwCl [(mo, .inr (12, [.int v0, .ref m1, .ref m2, .ref m3, .ref m4, .ref m5, .int v6, .int L208f0x7, .int 2, .int v7, .int x_144, .long 0, .int v12, .int v13, .int v14, .int v15, .ref m16, .ref m17, .ref m18, .ref m19, .ref m20, .ref m21, .ref m22, .ref m23, .int v24, .ref m25, .ref m26, .ref m27, .ref m28, .ref m29, .int v30, .ref m31, .ref m32, .ref m33, .int v34, .int v35, .int v36, .ref m37, .ref m38, .ref m39, .ref m40, .long v41])), (m5, .inl (k 1, 1000, .inl f5))] H := hP
                  have hD : va_D A [(mo, .inr (12, [.int v0, .ref m1, .ref m2, .ref m3, .ref m4, .ref m5, .int v6, .int L208f0x7, .int 2, .int v7, .int x_144, .long 0, .int v12, .int v13, .int v14, .int v15, .ref m16, .ref m17, .ref m18, .ref m19, .ref m20, .ref m21, .ref m22, .ref m23, .int v24, .ref m25, .ref m26, .ref m27, .ref m28, .ref m29, .int v30, .ref m31, .ref m32, .ref m33, .int v34, .int v35, .int v36, .ref m37, .ref m38, .ref m39, .ref m40, .long v41])), (m5, .inl (k 1, 1000, .inl f5))] := hD
                  refine lv_aload_n hx hb dX12_next_261 rfl (lv_at hl 0 rfl) ?_
                  refine lv_dup hx hb dX12_next_262 rfl ?_
                  refine va_get (D := D) (ci := 12) (v := .int L208f0x7) (C := RX12) (T := TX12) (N := 42) hx hb hts iT_X12 hown hK hP 0 rfl rfl 7 (by decide) (hts _ tw_6_60) (fun _ h9 => h9) rfl dX12_next_263 ?_
                  refine lv_iconst (v := 1) hx hb dX12_next_266 (by decide) ?_
                  refine lv_iadd hx hb dX12_next_267 ?_
                  refine lv_topi (fun x_145 ex_145 => ?_)
                  have zx_145 : x_145.toInt = L208f0x7.toInt + 1 := by rw [ex_145]; exact z_add rfl rfl (by omega) (by omega)
                  refine va_put (D := D) (ci := 12) (v := .int x_145) (ty := tyX12 7) (C := RX12) (T := TX12) (N := 42) hx hb hts iT_X12 tyX12 tyX12_ok nmX12 hown hK hP hD hS 0 rfl rfl 7 (by decide) (hts _ tw_6_60) (fun _ h9 => h9) rfl (tyX12_ok 7 (by decide)) rfl rfl (Nat.le_of_ble_eq_true rfl) dX12_next_268 (fun H locs hP hD hS => ?_)
                  have hP : va_P D vwCl [(mo, .inr (12, [.int v0, .ref m1, .ref m2, .ref m3, .ref m4, .ref m5, .int v6, .int x_145, .int 2, .int v7, .int x_144, .long 0, .int v12, .int v13, .int v14, .int v15, .ref m16, .ref m17, .ref m18, .ref m19, .ref m20, .ref m21, .ref m22, .ref m23, .int v24, .ref m25, .ref m26, .ref m27, .ref m28, .ref m29, .int v30, .ref m31, .ref m32, .ref m33, .int v34, .int v35, .int v36, .ref m37, .ref m38, .ref m39, .ref m40, .long v41])), (m5, .inl (k 1, 1000, .inl f5))] H := hP
                  have hD : va_D A [(mo, .inr (12, [.int v0, .ref m1, .ref m2, .ref m3, .ref m4, .ref m5, .int v6, .int x_145, .int 2, .int v7, .int x_144, .long 0, .int v12, .int v13, .int v14, .int v15, .ref m16, .ref m17, .ref m18, .ref m19, .ref m20, .ref m21, .ref m22, .ref m23, .int v24, .ref m25, .ref m26, .ref m27, .ref m28, .ref m29, .int v30, .ref m31, .ref m32, .ref m33, .int v34, .int v35, .int v36, .ref m37, .ref m38, .ref m39, .ref m40, .long v41])), (m5, .inl (k 1, 1000, .inl f5))] := hD
                  refine lv_goto (tgt := 208) hx hb dX12_next_271 (by decide) ?_
                  exact ih_132 _ _ _ _ (by omega) ⟨x_145, x_144, rfl, (show 1 ≤ x_145.toInt ∧ x_145.toInt ≤ 1000 from by omega), (show x_145.toInt ≤ v6.toInt from by omega), (show v7.toInt < x_145.toInt from by omega), hP.sub (ws' := [(mo, .inr (12, [.int v0, .ref m1, .ref m2, .ref m3, .ref m4, .ref m5, .int v6, .int x_145, .int 2, .int v7, .int x_144, .long 0, .int v12, .int v13, .int v14, .int v15, .ref m16, .ref m17, .ref m18, .ref m19, .ref m20, .ref m21, .ref m22, .ref m23, .int v24, .ref m25, .ref m26, .ref m27, .ref m28, .ref m29, .int v30, .ref m31, .ref m32, .ref m33, .int v34, .int v35, .int v36, .ref m37, .ref m38, .ref m39, .ref m40, .long v41])), (m5, .inl (k 1, 1000, .inl f5))]) [0, 1] rfl, hD.sub (ws' := [(mo, .inr (12, [.int v0, .ref m1, .ref m2, .ref m3, .ref m4, .ref m5, .int v6, .int x_145, .int 2, .int v7, .int x_144, .long 0, .int v12, .int v13, .int v14, .int v15, .ref m16, .ref m17, .ref m18, .ref m19, .ref m20, .ref m21, .ref m22, .ref m23, .int v24, .ref m25, .ref m26, .ref m27, .ref m28, .ref m29, .int v30, .ref m31, .ref m32, .ref m33, .int v34, .int v35, .int v36, .ref m37, .ref m38, .ref m39, .ref m40, .long v41])), (m5, .inl (k 1, 1000, .inl f5))]) [0, 1] (by decide +kernel) rfl, hS, lv_sub hl [0] rfl⟩
                · skip
                  have zh_140 : 100000 < L208f0x10.toInt := z_nle h_140
                  refine lv_ldc (v := 1000000) hx hb hown (hts _ tw_7_6) dX12_next_233 ?_
                  refine lv_goto (tgt := 258) hx hb dX12_next_235 (by decide) ?_
                  refine va_put (D := D) (ci := 12) (v := .int 1000000) (ty := tyX12 10) (C := RX12) (T := TX12) (N := 42) hx hb hts iT_X12 tyX12 tyX12_ok nmX12 hown hK hP hD hS 0 rfl rfl 10 (by decide) (hts _ tw_6_63) (fun _ h9 => h9) rfl (tyX12_ok 10 (by decide)) rfl rfl (Nat.le_of_ble_eq_true rfl) dX12_next_258 (fun H locs hP hD hS => ?_)
                  have hP : va_P D vwCl [(mo, .inr (12, [.int v0, .ref m1, .ref m2, .ref m3, .ref m4, .ref m5, .int v6, .int L208f0x7, .int 2, .int v7, .int 1000000, .long 0, .int v12, .int v13, .int v14, .int v15, .ref m16, .ref m17, .ref m18, .ref m19, .ref m20, .ref m21, .ref m22, .ref m23, .int v24, .ref m25, .ref m26, .ref m27, .ref m28, .ref m29, .int v30, .ref m31, .ref m32, .ref m33, .int v34, .int v35, .int v36, .ref m37, .ref m38, .ref m39, .ref m40, .long v41])), (m5, .inl (k 1, 1000, .inl f5))] H := hP
                  have hD : va_D A [(mo, .inr (12, [.int v0, .ref m1, .ref m2, .ref m3, .ref m4, .ref m5, .int v6, .int L208f0x7, .int 2, .int v7, .int 1000000, .long 0, .int v12, .int v13, .int v14, .int v15, .ref m16, .ref m17, .ref m18, .ref m19, .ref m20, .ref m21, .ref m22, .ref m23, .int v24, .ref m25, .ref m26, .ref m27, .ref m28, .ref m29, .int v30, .ref m31, .ref m32, .ref m33, .int v34, .int v35, .int v36, .ref m37, .ref m38, .ref m39, .ref m40, .long v41])), (m5, .inl (k 1, 1000, .inl f5))] := hD
                  refine lv_aload_n hx hb dX12_next_261 rfl (lv_at hl 0 rfl) ?_
                  refine lv_dup hx hb dX12_next_262 rfl ?_
                  refine va_get (D := D) (ci := 12) (v := .int L208f0x7) (C := RX12) (T := TX12) (N := 42) hx hb hts iT_X12 hown hK hP 0 rfl rfl 7 (by decide) (hts _ tw_6_60) (fun _ h9 => h9) rfl dX12_next_263 ?_
                  refine lv_iconst (v := 1) hx hb dX12_next_266 (by decide) ?_
                  refine lv_iadd hx hb dX12_next_267 ?_
                  refine lv_topi (fun x_146 ex_146 => ?_)
                  have zx_146 : x_146.toInt = L208f0x7.toInt + 1 := by rw [ex_146]; exact z_add rfl rfl (by omega) (by omega)
                  refine va_put (D := D) (ci := 12) (v := .int x_146) (ty := tyX12 7) (C := RX12) (T := TX12) (N := 42) hx hb hts iT_X12 tyX12 tyX12_ok nmX12 hown hK hP hD hS 0 rfl rfl 7 (by decide) (hts _ tw_6_60) (fun _ h9 => h9) rfl (tyX12_ok 7 (by decide)) rfl rfl (Nat.le_of_ble_eq_true rfl) dX12_next_268 (fun H locs hP hD hS => ?_)
                  have hP : va_P D vwCl [(mo, .inr (12, [.int v0, .ref m1, .ref m2, .ref m3, .ref m4, .ref m5, .int v6, .int x_146, .int 2, .int v7, .int 1000000, .long 0, .int v12, .int v13, .int v14, .int v15, .ref m16, .ref m17, .ref m18, .ref m19, .ref m20, .ref m21, .ref m22, .ref m23, .int v24, .ref m25, .ref m26, .ref m27, .ref m28, .ref m29, .int v30, .ref m31, .ref m32, .ref m33, .int v34, .int v35, .int v36, .ref m37, .ref m38, .ref m39, .ref m40, .long v41])), (m5, .inl (k 1, 1000, .inl f5))] H := hP
                  have hD : va_D A [(mo, .inr (12, [.int v0, .ref m1, .ref m2, .ref m3, .ref m4, .ref m5, .int v6, .int x_146, .int 2, .int v7, .int 1000000, .long 0, .int v12, .int v13, .int v14, .int v15, .ref m16, .ref m17, .ref m18, .ref m19, .ref m20, .ref m21, .ref m22, .ref m23, .int v24, .ref m25, .ref m26, .ref m27, .ref m28, .ref m29, .int v30, .ref m31, .ref m32, .ref m33, .int v34, .int v35, .int v36, .ref m37, .ref m38, .ref m39, .ref m40, .long v41])), (m5, .inl (k 1, 1000, .inl f5))] := hD
                  refine lv_goto (tgt := 208) hx hb dX12_next_271 (by decide) ?_
                  exact ih_132 _ _ _ _ (by omega) ⟨x_146, 1000000, rfl, (show 1 ≤ x_146.toInt ∧ x_146.toInt ≤ 1000 from by omega), (show x_146.toInt ≤ v6.toInt from by omega), (show v7.toInt < x_146.toInt from by omega), hP.sub (ws' := [(mo, .inr (12, [.int v0, .ref m1, .ref m2, .ref m3, .ref m4, .ref m5, .int v6, .int x_146, .int 2, .int v7, .int 1000000, .long 0, .int v12, .int v13, .int v14, .int v15, .ref m16, .ref m17, .ref m18, .ref m19, .ref m20, .ref m21, .ref m22, .ref m23, .int v24, .ref m25, .ref m26, .ref m27, .ref m28, .ref m29, .int v30, .ref m31, .ref m32, .ref m33, .int v34, .int v35, .int v36, .ref m37, .ref m38, .ref m39, .ref m40, .long v41])), (m5, .inl (k 1, 1000, .inl f5))]) [0, 1] rfl, hD.sub (ws' := [(mo, .inr (12, [.int v0, .ref m1, .ref m2, .ref m3, .ref m4, .ref m5, .int v6, .int x_146, .int 2, .int v7, .int 1000000, .long 0, .int v12, .int v13, .int v14, .int v15, .ref m16, .ref m17, .ref m18, .ref m19, .ref m20, .ref m21, .ref m22, .ref m23, .int v24, .ref m25, .ref m26, .ref m27, .ref m28, .ref m29, .int v30, .ref m31, .ref m32, .ref m33, .int v34, .int v35, .int v36, .ref m37, .ref m38, .ref m39, .ref m40, .long v41])), (m5, .inl (k 1, 1000, .inl f5))]) [0, 1] (by decide +kernel) rfl, hS, lv_sub hl [0] rfl⟩
        · skip
          have zh_110 : ¬ r_105.toInt = 0 := z_ne h_110
          refine lv_aload_n hx hb dX12_next_95 rfl (lv_at hl 0 rfl) ?_
          refine lv_iconst (v := 1) hx hb dX12_next_96 (by decide) ?_
          refine va_put (D := D) (ci := 12) (v := .int 1) (ty := tyX12 8) (C := RX12) (T := TX12) (N := 42) hx hb hts iT_X12 tyX12 tyX12_ok nmX12 hown hK hP hD hS 0 rfl rfl 8 (by decide) (hts _ tw_6_61) (fun _ h9 => h9) rfl (tyX12_ok 8 (by decide)) rfl rfl (Nat.le_of_ble_eq_true rfl) dX12_next_97 (fun H locs hP hD hS => ?_)
          have hP : va_P D vwCl [(mo, .inr (12, [.int v0, .ref m1, .ref m2, .ref m3, .ref m4, .ref m5, .int v6, .int v7, .int 1, .int v7, .int 0, .long 0, .int v12, .int v13, .int v14, .int v15, .ref m16, .ref m17, .ref m18, .ref m19, .ref m20, .ref m21, .ref m22, .ref m23, .int v24, .ref m25, .ref m26, .ref m27, .ref m28, .ref m29, .int v30, .ref m31, .ref m32, .ref m33, .int v34, .int v35, .int v36, .ref m37, .ref m38, .ref m39, .ref m40, .long v41])), (m5, .inl (k 1, 1000, .inl f5))] H := hP
          have hD : va_D A [(mo, .inr (12, [.int v0, .ref m1, .ref m2, .ref m3, .ref m4, .ref m5, .int v6, .int v7, .int 1, .int v7, .int 0, .long 0, .int v12, .int v13, .int v14, .int v15, .ref m16, .ref m17, .ref m18, .ref m19, .ref m20, .ref m21, .ref m22, .ref m23, .int v24, .ref m25, .ref m26, .ref m27, .ref m28, .ref m29, .int v30, .ref m31, .ref m32, .ref m33, .int v34, .int v35, .int v36, .ref m37, .ref m38, .ref m39, .ref m40, .long v41])), (m5, .inl (k 1, 1000, .inl f5))] := hD
          refine lv_iconst (v := 0) hx hb dX12_next_100 (by decide) ?_
          refine lv_istore_n (lv' := [(1, .int 0), (0, .ref mo)]) hx hb dX12_next_101 rfl hl (by decide) rfl (fun ls hl => ?_)
          refine lv_aload_n hx hb dX12_next_102 rfl (lv_at hl 1 rfl) ?_
          refine lv_aload_n hx hb dX12_next_103 rfl (lv_at hl 1 rfl) ?_
          refine va_get (D := D) (ci := 12) (v := .int v7) (C := RX12) (T := TX12) (N := 42) hx hb hts iT_X12 hown hK hP 0 rfl rfl 7 (by decide) (hts _ tw_6_60) (fun _ h9 => h9) rfl dX12_next_104 ?_
          refine lv_bipush (v := 97) hx hb dX12_next_107 (by decide) ?_
          refine lv_bipush (v := 122) hx hb dX12_next_109 (by decide) ?_
          obtain ⟨hPc, hDc, hFc⟩ := sub3 hP hD hS hA (ws' := [(mo, .inr (12, [.int v0, .ref m1, .ref m2, .ref m3, .ref m4, .ref m5, .int v6, .int v7, .int 1, .int v7, .int 0, .long 0, .int v12, .int v13, .int v14, .int v15, .ref m16, .ref m17, .ref m18, .ref m19, .ref m20, .ref m21, .ref m22, .ref m23, .int v24, .ref m25, .ref m26, .ref m27, .ref m28, .ref m29, .int v30, .ref m31, .ref m32, .ref m33, .int v34, .int v35, .int v36, .ref m37, .ref m38, .ref m39, .ref m40, .long v41])), (m5, .inl (k 1, 1000, .inl f5))]) [0, 1] (by decide +kernel) rfl
          refine va_calli (va_runV (C := RX12) (As := [.int v7, .int 97, .int 122]) (rest := []) ⟨hx, hb, hml, hown, hts⟩ (c_X12_isByte l D k mo v7 97 122 v0 m1 m2 m3 m4 m5 v6 v7 1 v7 0 0 v12 v13 v14 v15 m16 m17 m18 m19 m20 m21 m22 m23 v24 m25 m26 m27 m28 m29 v30 m31 m32 m33 v34 v35 v36 m37 m38 m39 m40 v41 f5 H.size (show 0 ≤ v7.toInt ∧ v7.toInt ≤ 1000 from by omega) (show 0 ≤ v6.toInt ∧ v6.toInt ≤ 1000 from by omega) (show 0 ≤ v24.toInt ∧ v24.toInt ≤ 1023 from by omega)) (cwV 3 hts (gV tw_6_238 tw_7_0 tw_p_40 tw_1_13 tw_7_1) rfl rfl rfl hdV_X12_isByte ⟨Nat.le_of_ble_eq_true rfl, Nat.le_of_ble_eq_true rfl⟩) (cz_V hK hPc hDc hN (ci := 12) (q0 := 0) rfl rfl [.int v7, .int 97, .int 122]) rfl rfl hl.1 rfl (lv_room (Nat.le_of_ble_eq_true rfl)) dX12_next_111 ⟨Nat.le_of_ble_eq_true rfl, Nat.le_of_ble_eq_true rfl⟩) hS (fun q _ h => hFc q h) hFc (fun r_147 uZ tZ H1 locs ht hvm hw hB hz1 hk1 hS => ?_)
          obtain ⟨hP1, hK1, hD1⟩ := hB
          rw [ht] at hP1
          obtain ⟨hP, hD⟩ := va_join (wr := []) (w1 := [(mo, .inr (12, [.int v0, .ref m1, .ref m2, .ref m3, .ref m4, .ref m5, .int v6, .int v7, .int 1, .int v7, .int 0, .long 0, .int v12, .int v13, .int v14, .int v15, .ref m16, .ref m17, .ref m18, .ref m19, .ref m20, .ref m21, .ref m22, .ref m23, .int v24, .ref m25, .ref m26, .ref m27, .ref m28, .ref m29, .int v30, .ref m31, .ref m32, .ref m33, .int v34, .int v35, .int v36, .ref m37, .ref m38, .ref m39, .ref m40, .long v41])), (m5, .inl (k 1, 1000, .inl f5))]) hP hD [0, 1] [] rfl rfl (by decide +kernel) (by decide +kernel) hk1 hFc hP1 hD1
          clear hK1 hP1 hD1 hPc hDc hFc
          clear hk1 hz1 ht hvm
          have hP : va_P D vwCl [(mo, .inr (12, [.int v0, .ref m1, .ref m2, .ref m3, .ref m4, .ref m5, .int v6, .int v7, .int 1, .int v7, .int 0, .long 0, .int v12, .int v13, .int v14, .int v15, .ref m16, .ref m17, .ref m18, .ref m19, .ref m20, .ref m21, .ref m22, .ref m23, .int v24, .ref m25, .ref m26, .ref m27, .ref m28, .ref m29, .int v30, .ref m31, .ref m32, .ref m33, .int v34, .int v35, .int v36, .ref m37, .ref m38, .ref m39, .ref m40, .long v41])), (m5, .inl (k 1, 1000, .inl f5))] H1 := hP
          have hD : va_D A [(mo, .inr (12, [.int v0, .ref m1, .ref m2, .ref m3, .ref m4, .ref m5, .int v6, .int v7, .int 1, .int v7, .int 0, .long 0, .int v12, .int v13, .int v14, .int v15, .ref m16, .ref m17, .ref m18, .ref m19, .ref m20, .ref m21, .ref m22, .ref m23, .int v24, .ref m25, .ref m26, .ref m27, .ref m28, .ref m29, .int v30, .ref m31, .ref m32, .ref m33, .int v34, .int v35, .int v36, .ref m37, .ref m38, .ref m39, .ref m40, .long v41])), (m5, .inl (k 1, 1000, .inl f5))] := hD
          generalize H1 = H at hP hS ⊢
          have hw_148 : (0 ≤ r_147.toInt ∧ r_147.toInt ≤ 1) ∧ (r_147 = isByteOf f5 v6 v7 97 122) ∧ ((r_147.toInt = 1 ∧ v7.toInt < v6.toInt) ∨ r_147.toInt = 0) := hw
          obtain ⟨hw_149, hw_150, hw_151⟩ := hw_148
          clear hw
          obtain rfl : r_105 = r_147 := hw_108.trans hw_150.symm
          refine lv_if_eq (tgt := 185) hx hb dX12_next_114 (by decide) (fun h_152 => ?_) (fun h_152 => ?_)
          · skip
            have zh_152 : r_105.toInt = 0 := z_eq h_152
            exact False.elim (by omega)
          · skip
            have zh_152 : ¬ r_105.toInt = 0 := z_ne h_152
            refine lv_aload_n hx hb dX12_next_117 rfl (lv_at hl 1 rfl) ?_
            refine lv_iload_n hx hb dX12_next_118 rfl (lv_at hl 0 rfl) ?_
            refine lv_bipush (v := 11) hx hb dX12_next_119 (by decide) ?_
            refine lv_icmp_le (tgt := 130) hx hb dX12_next_121 (by decide) (fun _ => ?_) (fun c9 => absurd c9 (by decide))
            refine lv_ldc2 (v := 27) hx hb hown (hts _ tw_7_3) dX12_next_130 ?_
            refine lv_aload_n hx hb dX12_next_133 rfl (lv_at hl 1 rfl) ?_
            refine va_get (D := D) (ci := 12) (v := .long 0) (C := RX12) (T := TX12) (N := 42) hx hb hts iT_X12 hown hK hP 0 rfl rfl 11 (by decide) (hts _ tw_6_64) (fun _ h9 => h9) rfl dX12_next_134 ?_
            refine lv_lmul hx hb dX12_next_137 ?_
            refine lv_topl (fun x_153 ex_153 => ?_)
            obtain rfl : x_153 = 0 := ex_153.trans (by decide)
            refine lv_aload_n hx hb dX12_next_138 rfl (lv_at hl 1 rfl) ?_
            refine va_get (D := D) (ci := 12) (v := .ref m5) (C := RX12) (T := TX12) (N := 42) hx hb hts iT_X12 hown hK hP 0 rfl rfl 5 (by decide) (hts _ tw_6_58) (fun _ h9 => h9) rfl dX12_next_139 ?_
            refine lv_aload_n hx hb dX12_next_142 rfl (lv_at hl 1 rfl) ?_
            refine va_get (D := D) (ci := 12) (v := .int v7) (C := RX12) (T := TX12) (N := 42) hx hb hts iT_X12 hown hK hP 0 rfl rfl 7 (by decide) (hts _ tw_6_60) (fun _ h9 => h9) rfl dX12_next_143 ?_
            refine va_bald hx hb hK hP 1 1 rfl rfl (z_in (by omega) (by omega)) dX12_next_146 ?_
            refine lv_topi (fun x_154 ex_154 => ?_)
            refine lv_i2l (v := x_154.toInt64) hx hb dX12_next_147 rfl ?_
            refine lv_ladd hx hb dX12_next_148 ?_
            refine lv_topl (fun x_155 ex_155 => ?_)
            have zrx_154 := z_rng x_154
            have zx_155 : x_155.toInt = 0 + x_154.toInt := by rw [ex_155]; exact zl_add rfl (Int32.toInt_toInt64 _) (by omega) (by omega)
            refine lv_ldc2 (v := 96) hx hb hown (hts _ tw_7_4) dX12_next_149 ?_
            refine lv_lsub hx hb dX12_next_152 ?_
            refine lv_topl (fun x_156 ex_156 => ?_)
            have zx_156 : x_156.toInt = x_155.toInt - 96 := by rw [ex_156]; exact zl_sub rfl rfl (by omega) (by omega)
            refine va_put (D := D) (ci := 12) (v := .long x_156) (ty := tyX12 11) (C := RX12) (T := TX12) (N := 42) hx hb hts iT_X12 tyX12 tyX12_ok nmX12 hown hK hP hD hS 0 rfl rfl 11 (by decide) (hts _ tw_6_64) (fun _ h9 => h9) rfl (tyX12_ok 11 (by decide)) rfl rfl (Nat.le_of_ble_eq_true rfl) dX12_next_153 (fun H locs hP hD hS => ?_)
            have hP : va_P D vwCl [(mo, .inr (12, [.int v0, .ref m1, .ref m2, .ref m3, .ref m4, .ref m5, .int v6, .int v7, .int 1, .int v7, .int 0, .long x_156, .int v12, .int v13, .int v14, .int v15, .ref m16, .ref m17, .ref m18, .ref m19, .ref m20, .ref m21, .ref m22, .ref m23, .int v24, .ref m25, .ref m26, .ref m27, .ref m28, .ref m29, .int v30, .ref m31, .ref m32, .ref m33, .int v34, .int v35, .int v36, .ref m37, .ref m38, .ref m39, .ref m40, .long v41])), (m5, .inl (k 1, 1000, .inl f5))] H := hP
            have hD : va_D A [(mo, .inr (12, [.int v0, .ref m1, .ref m2, .ref m3, .ref m4, .ref m5, .int v6, .int v7, .int 1, .int v7, .int 0, .long x_156, .int v12, .int v13, .int v14, .int v15, .ref m16, .ref m17, .ref m18, .ref m19, .ref m20, .ref m21, .ref m22, .ref m23, .int v24, .ref m25, .ref m26, .ref m27, .ref m28, .ref m29, .int v30, .ref m31, .ref m32, .ref m33, .int v34, .int v35, .int v36, .ref m37, .ref m38, .ref m39, .ref m40, .long v41])), (m5, .inl (k 1, 1000, .inl f5))] := hD
            refine lv_iload_n hx hb dX12_next_156 rfl (lv_at hl 0 rfl) ?_
            refine lv_bipush (v := 11) hx hb dX12_next_157 (by decide) ?_
            refine lv_icmp_le (tgt := 169) hx hb dX12_next_159 (by decide) (fun _ => ?_) (fun c9 => absurd c9 (by decide))
            refine lv_aload_n hx hb dX12_next_169 rfl (lv_at hl 1 rfl) ?_
            refine lv_dup hx hb dX12_next_170 rfl ?_
            refine va_get (D := D) (ci := 12) (v := .int v7) (C := RX12) (T := TX12) (N := 42) hx hb hts iT_X12 hown hK hP 0 rfl rfl 7 (by decide) (hts _ tw_6_60) (fun _ h9 => h9) rfl dX12_next_171 ?_
            refine lv_iconst (v := 1) hx hb dX12_next_174 (by decide) ?_
            refine lv_iadd hx hb dX12_next_175 ?_
            refine lv_topi (fun x_157 ex_157 => ?_)
            have zx_157 : x_157.toInt = v7.toInt + 1 := by rw [ex_157]; exact z_add rfl rfl (by omega) (by omega)
            refine va_put (D := D) (ci := 12) (v := .int x_157) (ty := tyX12 7) (C := RX12) (T := TX12) (N := 42) hx hb hts iT_X12 tyX12 tyX12_ok nmX12 hown hK hP hD hS 0 rfl rfl 7 (by decide) (hts _ tw_6_60) (fun _ h9 => h9) rfl (tyX12_ok 7 (by decide)) rfl rfl (Nat.le_of_ble_eq_true rfl) dX12_next_176 (fun H locs hP hD hS => ?_)
            have hP : va_P D vwCl [(mo, .inr (12, [.int v0, .ref m1, .ref m2, .ref m3, .ref m4, .ref m5, .int v6, .int x_157, .int 1, .int v7, .int 0, .long x_156, .int v12, .int v13, .int v14, .int v15, .ref m16, .ref m17, .ref m18, .ref m19, .ref m20, .ref m21, .ref m22, .ref m23, .int v24, .ref m25, .ref m26, .ref m27, .ref m28, .ref m29, .int v30, .ref m31, .ref m32, .ref m33, .int v34, .int v35, .int v36, .ref m37, .ref m38, .ref m39, .ref m40, .long v41])), (m5, .inl (k 1, 1000, .inl f5))] H := hP
            have hD : va_D A [(mo, .inr (12, [.int v0, .ref m1, .ref m2, .ref m3, .ref m4, .ref m5, .int v6, .int x_157, .int 1, .int v7, .int 0, .long x_156, .int v12, .int v13, .int v14, .int v15, .ref m16, .ref m17, .ref m18, .ref m19, .ref m20, .ref m21, .ref m22, .ref m23, .int v24, .ref m25, .ref m26, .ref m27, .ref m28, .ref m29, .int v30, .ref m31, .ref m32, .ref m33, .int v34, .int v35, .int v36, .ref m37, .ref m38, .ref m39, .ref m40, .long v41])), (m5, .inl (k 1, 1000, .inl f5))] := hD
            refine lv_iinc (v := 1) (lv' := [(1, .int 1), (0, .ref mo)]) hx hb dX12_next_179 hl (k := 0) rfl (by decide) (by decide) rfl (fun ls hl => ?_)
            refine lv_goto (tgt := 102) hx hb dX12_next_182 (by decide) ?_
            refine loop_r (Wg := fun H locs ls => W p l e _ s m _ below meth c H locs _ _ _ (F0 m 102 ls [])) (fun n9 H locs ls => ∃ (L102l1 : Int32) (L102f0x7 : Int32) (L102f0x11 : Int64), n9 = (1000 - L102f0x7.toInt).toNat ∧ (1 ≤ L102f0x7.toInt ∧ L102f0x7.toInt ≤ 1000) ∧ (L102f0x7.toInt ≤ v6.toInt) ∧ (v7.toInt < L102f0x7.toInt) ∧ va_P D vwCl [(mo, .inr (12, [.int v0, .ref m1, .ref m2, .ref m3, .ref m4, .ref m5, .int v6, .int L102f0x7, .int 1, .int v7, .int 0, .long L102f0x11, .int v12, .int v13, .int v14, .int v15, .ref m16, .ref m17, .ref m18, .ref m19, .ref m20, .ref m21, .ref m22, .ref m23, .int v24, .ref m25, .ref m26, .ref m27, .ref m28, .ref m29, .int v30, .ref m31, .ref m32, .ref m33, .int v34, .int v35, .int v36, .ref m37, .ref m38, .ref m39, .ref m40, .long v41])), (m5, .inl (k 1, 1000, .inl f5))] H ∧ va_D A [(mo, .inr (12, [.int v0, .ref m1, .ref m2, .ref m3, .ref m4, .ref m5, .int v6, .int L102f0x7, .int 1, .int v7, .int 0, .long L102f0x11, .int v12, .int v13, .int v14, .int v15, .ref m16, .ref m17, .ref m18, .ref m19, .ref m20, .ref m21, .ref m22, .ref m23, .int v24, .ref m25, .ref m26, .ref m27, .ref m28, .ref m29, .int v30, .ref m31, .ref m32, .ref m33, .int v34, .int v35, .int v36, .ref m37, .ref m38, .ref m39, .ref m40, .long v41])), (m5, .inl (k 1, 1000, .inl f5))] ∧ va_S A s.heap H locs ∧ lv_has ls 2 [(0, .ref mo), (1, .int L102l1)]) (fun n9 H locs ls hI ih_159 => ?_) _ _ _ _ ⟨1, x_157, x_156, rfl, (show 1 ≤ x_157.toInt ∧ x_157.toInt ≤ 1000 from by omega), (show x_157.toInt ≤ v6.toInt from by omega), (show v7.toInt < x_157.toInt from by omega), hP.sub (ws' := [(mo, .inr (12, [.int v0, .ref m1, .ref m2, .ref m3, .ref m4, .ref m5, .int v6, .int x_157, .int 1, .int v7, .int 0, .long x_156, .int v12, .int v13, .int v14, .int v15, .ref m16, .ref m17, .ref m18, .ref m19, .ref m20, .ref m21, .ref m22, .ref m23, .int v24, .ref m25, .ref m26, .ref m27, .ref m28, .ref m29, .int v30, .ref m31, .ref m32, .ref m33, .int v34, .int v35, .int v36, .ref m37, .ref m38, .ref m39, .ref m40, .long v41])), (m5, .inl (k 1, 1000, .inl f5))]) [0, 1] rfl, hD.sub (ws' := [(mo, .inr (12, [.int v0, .ref m1, .ref m2, .ref m3, .ref m4, .ref m5, .int v6, .int x_157, .int 1, .int v7, .int 0, .long x_156, .int v12, .int v13, .int v14, .int v15, .ref m16, .ref m17, .ref m18, .ref m19, .ref m20, .ref m21, .ref m22, .ref m23, .int v24, .ref m25, .ref m26, .ref m27, .ref m28, .ref m29, .int v30, .ref m31, .ref m32, .ref m33, .int v34, .int v35, .int v36, .ref m37, .ref m38, .ref m39, .ref m40, .long v41])), (m5, .inl (k 1, 1000, .inl f5))]) [0, 1] (by decide +kernel) rfl, hS, lv_sub hl [1, 0] rfl⟩
            clear hP hD hS hl
            obtain ⟨L102l1, L102f0x7, L102f0x11, en_160, zL102f0x7, hi102x0, hi102x1, hP, hD, hS, hl⟩ := hI
            refine lv_aload_n hx hb dX12_next_102 rfl (lv_at hl 0 rfl) ?_
            refine lv_aload_n hx hb dX12_next_103 rfl (lv_at hl 0 rfl) ?_
            refine va_get (D := D) (ci := 12) (v := .int L102f0x7) (C := RX12) (T := TX12) (N := 42) hx hb hts iT_X12 hown hK hP 0 rfl rfl 7 (by decide) (hts _ tw_6_60) (fun _ h9 => h9) rfl dX12_next_104 ?_
            refine lv_bipush (v := 97) hx hb dX12_next_107 (by decide) ?_
            refine lv_bipush (v := 122) hx hb dX12_next_109 (by decide) ?_
            obtain ⟨hPc, hDc, hFc⟩ := sub3 hP hD hS hA (ws' := [(mo, .inr (12, [.int v0, .ref m1, .ref m2, .ref m3, .ref m4, .ref m5, .int v6, .int L102f0x7, .int 1, .int v7, .int 0, .long L102f0x11, .int v12, .int v13, .int v14, .int v15, .ref m16, .ref m17, .ref m18, .ref m19, .ref m20, .ref m21, .ref m22, .ref m23, .int v24, .ref m25, .ref m26, .ref m27, .ref m28, .ref m29, .int v30, .ref m31, .ref m32, .ref m33, .int v34, .int v35, .int v36, .ref m37, .ref m38, .ref m39, .ref m40, .long v41])), (m5, .inl (k 1, 1000, .inl f5))]) [0, 1] (by decide +kernel) rfl
            refine va_calli (va_runV (C := RX12) (As := [.int L102f0x7, .int 97, .int 122]) (rest := []) ⟨hx, hb, hml, hown, hts⟩ (c_X12_isByte l D k mo L102f0x7 97 122 v0 m1 m2 m3 m4 m5 v6 L102f0x7 1 v7 0 L102f0x11 v12 v13 v14 v15 m16 m17 m18 m19 m20 m21 m22 m23 v24 m25 m26 m27 m28 m29 v30 m31 m32 m33 v34 v35 v36 m37 m38 m39 m40 v41 f5 H.size (show 0 ≤ L102f0x7.toInt ∧ L102f0x7.toInt ≤ 1000 from by omega) (show 0 ≤ v6.toInt ∧ v6.toInt ≤ 1000 from by omega) (show 0 ≤ v24.toInt ∧ v24.toInt ≤ 1023 from by omega)) (cwV 3 hts (gV tw_6_238 tw_7_0 tw_p_40 tw_1_13 tw_7_1) rfl rfl rfl hdV_X12_isByte ⟨Nat.le_of_ble_eq_true rfl, Nat.le_of_ble_eq_true rfl⟩) (cz_V hK hPc hDc hN (ci := 12) (q0 := 0) rfl rfl [.int L102f0x7, .int 97, .int 122]) rfl rfl hl.1 rfl (lv_room (Nat.le_of_ble_eq_true rfl)) dX12_next_111 ⟨Nat.le_of_ble_eq_true rfl, Nat.le_of_ble_eq_true rfl⟩) hS (fun q _ h => hFc q h) hFc (fun r_161 uZ tZ H1 locs ht hvm hw hB hz1 hk1 hS => ?_)
            obtain ⟨hP1, hK1, hD1⟩ := hB
            rw [ht] at hP1
            obtain ⟨hP, hD⟩ := va_join (wr := []) (w1 := [(mo, .inr (12, [.int v0, .ref m1, .ref m2, .ref m3, .ref m4, .ref m5, .int v6, .int L102f0x7, .int 1, .int v7, .int 0, .long L102f0x11, .int v12, .int v13, .int v14, .int v15, .ref m16, .ref m17, .ref m18, .ref m19, .ref m20, .ref m21, .ref m22, .ref m23, .int v24, .ref m25, .ref m26, .ref m27, .ref m28, .ref m29, .int v30, .ref m31, .ref m32, .ref m33, .int v34, .int v35, .int v36, .ref m37, .ref m38, .ref m39, .ref m40, .long v41])), (m5, .inl (k 1, 1000, .inl f5))]) hP hD [0, 1] [] rfl rfl (by decide +kernel) (by decide +kernel) hk1 hFc hP1 hD1
            clear hK1 hP1 hD1 hPc hDc hFc
            clear hk1 hz1 ht hvm
            have hP : va_P D vwCl [(mo, .inr (12, [.int v0, .ref m1, .ref m2, .ref m3, .ref m4, .ref m5, .int v6, .int L102f0x7, .int 1, .int v7, .int 0, .long L102f0x11, .int v12, .int v13, .int v14, .int v15, .ref m16, .ref m17, .ref m18, .ref m19, .ref m20, .ref m21, .ref m22, .ref m23, .int v24, .ref m25, .ref m26, .ref m27, .ref m28, .ref m29, .int v30, .ref m31, .ref m32, .ref m33, .int v34, .int v35, .int v36, .ref m37, .ref m38, .ref m39, .ref m40, .long v41])), (m5, .inl (k 1, 1000, .inl f5))] H1 := hP
            have hD : va_D A [(mo, .inr (12, [.int v0, .ref m1, .ref m2, .ref m3, .ref m4, .ref m5, .int v6, .int L102f0x7, .int 1, .int v7, .int 0, .long L102f0x11, .int v12, .int v13, .int v14, .int v15, .ref m16, .ref m17, .ref m18, .ref m19, .ref m20, .ref m21, .ref m22, .ref m23, .int v24, .ref m25, .ref m26, .ref m27, .ref m28, .ref m29, .int v30, .ref m31, .ref m32, .ref m33, .int v34, .int v35, .int v36, .ref m37, .ref m38, .ref m39, .ref m40, .long v41])), (m5, .inl (k 1, 1000, .inl f5))] := hD
            generalize H1 = H at hP hS ⊢
            have hw_162 : (0 ≤ r_161.toInt ∧ r_161.toInt ≤ 1) ∧ (r_161 = isByteOf f5 v6 L102f0x7 97 122) ∧ ((r_161.toInt = 1 ∧ L102f0x7.toInt < v6.toInt) ∨ r_161.toInt = 0) := hw
            obtain ⟨hw_163, hw_164, hw_165⟩ := hw_162
            clear hw
            refine lv_if_eq (tgt := 185) hx hb dX12_next_114 (by decide) (fun h_166 => ?_) (fun h_166 => ?_)
            · skip
              have zh_166 : r_161.toInt = 0 := z_eq h_166
              refine lv_goto (tgt := 307) hx hb dX12_next_185 (by decide) ?_
              obtain ⟨hP9, hD9⟩ := sub2 hP hD (ws' := [(mo, .inr (12, [.int v0, .ref m1, .ref m2, .ref m3, .ref m4, .ref m5, .int v6, .int L102f0x7, .int 1, .int v7, .int 0, .long L102f0x11, .int v12, .int v13, .int v14, .int v15, .ref m16, .ref m17, .ref m18, .ref m19, .ref m20, .ref m21, .ref m22, .ref m23, .int v24, .ref m25, .ref m26, .ref m27, .ref m28, .ref m29, .int v30, .ref m31, .ref m32, .ref m33, .int v34, .int v35, .int v36, .ref m37, .ref m38, .ref m39, .ref m40, .long v41])), (m5, .inl (k 1, 1000, .inl f5))]) [0, 1] (by decide +kernel) rfl
              exact W.vret hx hb hr (fun tZ ht hW => ⟨⟨(L102f0x7, 1, v7, 0, L102f0x11), rfl, ⟨(show 0 ≤ L102f0x7.toInt ∧ L102f0x7.toInt ≤ 1000 from by omega), (show 0 ≤ 1 ∧ 1 ≤ 4 from by omega), (show 0 ≤ v7.toInt ∧ v7.toInt ≤ 1000 from by omega), (show v7.toInt ≤ L102f0x7.toInt ∧ L102f0x7.toInt ≤ v6.toInt from by omega), (show 1 = 0 ∨ v7.toInt < L102f0x7.toInt from by omega)⟩, by rw [ht]; exact hP9, va_K.moved hW.alike hK, hD9⟩, hS.F ht⟩) hS.2.2 dX12_next_307
            · skip
              have zh_166 : ¬ r_161.toInt = 0 := z_ne h_166
              refine lv_aload_n hx hb dX12_next_117 rfl (lv_at hl 0 rfl) ?_
              refine lv_iload_n hx hb dX12_next_118 rfl (lv_at hl 1 rfl) ?_
              refine lv_bipush (v := 11) hx hb dX12_next_119 (by decide) ?_
              refine lv_icmp_le (tgt := 130) hx hb dX12_next_121 (by decide) (fun h_167 => ?_) (fun h_167 => ?_)
              · skip
                have zh_167 : L102l1.toInt ≤ 11 := z_le h_167
                refine lv_ldc2 (v := 27) hx hb hown (hts _ tw_7_3) dX12_next_130 ?_
                refine lv_aload_n hx hb dX12_next_133 rfl (lv_at hl 0 rfl) ?_
                refine va_get (D := D) (ci := 12) (v := .long L102f0x11) (C := RX12) (T := TX12) (N := 42) hx hb hts iT_X12 hown hK hP 0 rfl rfl 11 (by decide) (hts _ tw_6_64) (fun _ h9 => h9) rfl dX12_next_134 ?_
                refine lv_lmul hx hb dX12_next_137 ?_
                refine lv_topl (fun x_168 ex_168 => ?_)
                refine lv_aload_n hx hb dX12_next_138 rfl (lv_at hl 0 rfl) ?_
                refine va_get (D := D) (ci := 12) (v := .ref m5) (C := RX12) (T := TX12) (N := 42) hx hb hts iT_X12 hown hK hP 0 rfl rfl 5 (by decide) (hts _ tw_6_58) (fun _ h9 => h9) rfl dX12_next_139 ?_
                refine lv_aload_n hx hb dX12_next_142 rfl (lv_at hl 0 rfl) ?_
                refine va_get (D := D) (ci := 12) (v := .int L102f0x7) (C := RX12) (T := TX12) (N := 42) hx hb hts iT_X12 hown hK hP 0 rfl rfl 7 (by decide) (hts _ tw_6_60) (fun _ h9 => h9) rfl dX12_next_143 ?_
                refine va_bald hx hb hK hP 1 1 rfl rfl (z_in (by omega) (by omega)) dX12_next_146 ?_
                refine lv_topi (fun x_169 ex_169 => ?_)
                refine lv_i2l (v := x_169.toInt64) hx hb dX12_next_147 rfl ?_
                refine lv_ladd hx hb dX12_next_148 ?_
                refine lv_topl (fun x_170 ex_170 => ?_)
                have zrx_169 := z_rng x_169
                refine lv_ldc2 (v := 96) hx hb hown (hts _ tw_7_4) dX12_next_149 ?_
                refine lv_lsub hx hb dX12_next_152 ?_
                refine lv_topl (fun x_171 ex_171 => ?_)
                refine va_put (D := D) (ci := 12) (v := .long x_171) (ty := tyX12 11) (C := RX12) (T := TX12) (N := 42) hx hb hts iT_X12 tyX12 tyX12_ok nmX12 hown hK hP hD hS 0 rfl rfl 11 (by decide) (hts _ tw_6_64) (fun _ h9 => h9) rfl (tyX12_ok 11 (by decide)) rfl rfl (Nat.le_of_ble_eq_true rfl) dX12_next_153 (fun H locs hP hD hS => ?_)
                have hP : va_P D vwCl [(mo, .inr (12, [.int v0, .ref m1, .ref m2, .ref m3, .ref m4, .ref m5, .int v6, .int L102f0x7, .int 1, .int v7, .int 0, .long x_171, .int v12, .int v13, .int v14, .int v15, .ref m16, .ref m17, .ref m18, .ref m19, .ref m20, .ref m21, .ref m22, .ref m23, .int v24, .ref m25, .ref m26, .ref m27, .ref m28, .ref m29, .int v30, .ref m31, .ref m32, .ref m33, .int v34, .int v35, .int v36, .ref m37, .ref m38, .ref m39, .ref m40, .long v41])), (m5, .inl (k 1, 1000, .inl f5))] H := hP
                have hD : va_D A [(mo, .inr (12, [.int v0, .ref m1, .ref m2, .ref m3, .ref m4, .ref m5, .int v6, .int L102f0x7, .int 1, .int v7, .int 0, .long x_171, .int v12, .int v13, .int v14, .int v15, .ref m16, .ref m17, .ref m18, .ref m19, .ref m20, .ref m21, .ref m22, .ref m23, .int v24, .ref m25, .ref m26, .ref m27, .ref m28, .ref m29, .int v30, .ref m31, .ref m32, .ref m33, .int v34, .int v35, .int v36, .ref m37, .ref m38, .ref m39, .ref m40, .long v41])), (m5, .inl (k 1, 1000, .inl f5))] := hD
                refine lv_iload_n hx hb dX12_next_156 rfl (lv_at hl 1 rfl) ?_
                refine lv_bipush (v := 11) hx hb dX12_next_157 (by decide) ?_
                refine lv_icmp_le (tgt := 169) hx hb dX12_next_159 (by decide) (fun h_172 => ?_) (fun h_172 => ?_)
                · skip
                  have zh_172 : L102l1.toInt ≤ 11 := z_le h_172
                  refine lv_aload_n hx hb dX12_next_169 rfl (lv_at hl 0 rfl) ?_
                  refine lv_dup hx hb dX12_next_170 rfl ?_
                  refine va_get (D := D) (ci := 12) (v := .int L102f0x7) (C := RX12) (T := TX12) (N := 42) hx hb hts iT_X12 hown hK hP 0 rfl rfl 7 (by decide) (hts _ tw_6_60) (fun _ h9 => h9) rfl dX12_next_171 ?_
                  refine lv_iconst (v := 1) hx hb dX12_next_174 (by decide) ?_
                  refine lv_iadd hx hb dX12_next_175 ?_
                  refine lv_topi (fun x_173 ex_173 => ?_)
                  have zx_173 : x_173.toInt = L102f0x7.toInt + 1 := by rw [ex_173]; exact z_add rfl rfl (by omega) (by omega)
                  refine va_put (D := D) (ci := 12) (v := .int x_173) (ty := tyX12 7) (C := RX12) (T := TX12) (N := 42) hx hb hts iT_X12 tyX12 tyX12_ok nmX12 hown hK hP hD hS 0 rfl rfl 7 (by decide) (hts _ tw_6_60) (fun _ h9 => h9) rfl (tyX12_ok 7 (by decide)) rfl rfl (Nat.le_of_ble_eq_true rfl) dX12_next_176 (fun H locs hP hD hS => ?_)
                  have hP : va_P D vwCl [(mo, .inr (12, [.int v0, .ref m1, .ref m2, .ref m3, .ref m4, .ref m5, .int v6, .int x_173, .int 1, .int v7, .int 0, .long x_171, .int v12, .int v13, .int v14, .int v15, .ref m16, .ref m17, .ref m18, .ref m19, .ref m20, .ref m21, .ref m22, .ref m23, .int v24, .ref m25, .ref m26, .ref m27, .ref m28, .ref m29, .int v30, .ref m31, .ref m32, .ref m33, .int v34, .int v35, .int v36, .ref m37, .ref m38, .ref m39, .ref m40, .long v41])), (m5, .inl (k 1, 1000, .inl f5))] H := hP
                  have hD : va_D A [(mo, .inr (12, [.int v0, .ref m1, .ref m2, .ref m3, .ref m4, .ref m5, .int v6, .int x_173, .int 1, .int v7, .int 0, .long x_171, .int v12, .int v13, .int v14, .int v15, .ref m16, .ref m17, .ref m18, .ref m19, .ref m20, .ref m21, .ref m22, .ref m23, .int v24, .ref m25, .ref m26, .ref m27, .ref m28, .ref m29, .int v30, .ref m31, .ref m32, .ref m33, .int v34, .int v35, .int v36, .ref m37, .ref m38, .ref m39, .ref m40, .long v41])), (m5, .inl (k 1, 1000, .inl f5))] := hD
                  obtain ⟨x_174, ex_174⟩ : ∃ y : Int32, y = L102l1 + 1 := ⟨_, rfl⟩
                  have zrL102l1 := z_rng L102l1
                  have zx_174 : x_174.toInt = L102l1.toInt + 1 := by rw [ex_174]; exact z_add rfl rfl (by omega) (by omega)
                  refine lv_iinc (v := x_174) (lv' := [(1, .int x_174), (0, .ref mo)]) hx hb dX12_next_179 hl (k := 1) rfl (by rw [ex_174]; rfl) (by decide) rfl (fun ls hl => ?_)
                  refine lv_goto (tgt := 102) hx hb dX12_next_182 (by decide) ?_
                  exact ih_159 _ _ _ _ (by omega) ⟨x_174, x_173, x_171, rfl, (show 1 ≤ x_173.toInt ∧ x_173.toInt ≤ 1000 from by omega), (show x_173.toInt ≤ v6.toInt from by omega), (show v7.toInt < x_173.toInt from by omega), hP.sub (ws' := [(mo, .inr (12, [.int v0, .ref m1, .ref m2, .ref m3, .ref m4, .ref m5, .int v6, .int x_173, .int 1, .int v7, .int 0, .long x_171, .int v12, .int v13, .int v14, .int v15, .ref m16, .ref m17, .ref m18, .ref m19, .ref m20, .ref m21, .ref m22, .ref m23, .int v24, .ref m25, .ref m26, .ref m27, .ref m28, .ref m29, .int v30, .ref m31, .ref m32, .ref m33, .int v34, .int v35, .int v36, .ref m37, .ref m38, .ref m39, .ref m40, .long v41])), (m5, .inl (k 1, 1000, .inl f5))]) [0, 1] rfl, hD.sub (ws' := [(mo, .inr (12, [.int v0, .ref m1, .ref m2, .ref m3, .ref m4, .ref m5, .int v6, .int x_173, .int 1, .int v7, .int 0, .long x_171, .int v12, .int v13, .int v14, .int v15, .ref m16, .ref m17, .ref m18, .ref m19, .ref m20, .ref m21, .ref m22, .ref m23, .int v24, .ref m25, .ref m26, .ref m27, .ref m28, .ref m29, .int v30, .ref m31, .ref m32, .ref m33, .int v34, .int v35, .int v36, .ref m37, .ref m38, .ref m39, .ref m40, .long v41])), (m5, .inl (k 1, 1000, .inl f5))]) [0, 1] (by decide +kernel) rfl, hS, lv_sub hl [1, 0] rfl⟩
                · skip
                  have zh_172 : 11 < L102l1.toInt := z_nle h_172
                  exact False.elim (by omega)
              · skip
                have zh_167 : 11 < L102l1.toInt := z_nle h_167
                refine lv_ldc2 (v := (-1)) hx hb hown (hts _ tw_7_2) dX12_next_124 ?_
                refine lv_goto (tgt := 153) hx hb dX12_next_127 (by decide) ?_
                refine va_put (D := D) (ci := 12) (v := .long (-1)) (ty := tyX12 11) (C := RX12) (T := TX12) (N := 42) hx hb hts iT_X12 tyX12 tyX12_ok nmX12 hown hK hP hD hS 0 rfl rfl 11 (by decide) (hts _ tw_6_64) (fun _ h9 => h9) rfl (tyX12_ok 11 (by decide)) rfl rfl (Nat.le_of_ble_eq_true rfl) dX12_next_153 (fun H locs hP hD hS => ?_)
                have hP : va_P D vwCl [(mo, .inr (12, [.int v0, .ref m1, .ref m2, .ref m3, .ref m4, .ref m5, .int v6, .int L102f0x7, .int 1, .int v7, .int 0, .long (-1), .int v12, .int v13, .int v14, .int v15, .ref m16, .ref m17, .ref m18, .ref m19, .ref m20, .ref m21, .ref m22, .ref m23, .int v24, .ref m25, .ref m26, .ref m27, .ref m28, .ref m29, .int v30, .ref m31, .ref m32, .ref m33, .int v34, .int v35, .int v36, .ref m37, .ref m38, .ref m39, .ref m40, .long v41])), (m5, .inl (k 1, 1000, .inl f5))] H := hP
                have hD : va_D A [(mo, .inr (12, [.int v0, .ref m1, .ref m2, .ref m3, .ref m4, .ref m5, .int v6, .int L102f0x7, .int 1, .int v7, .int 0, .long (-1), .int v12, .int v13, .int v14, .int v15, .ref m16, .ref m17, .ref m18, .ref m19, .ref m20, .ref m21, .ref m22, .ref m23, .int v24, .ref m25, .ref m26, .ref m27, .ref m28, .ref m29, .int v30, .ref m31, .ref m32, .ref m33, .int v34, .int v35, .int v36, .ref m37, .ref m38, .ref m39, .ref m40, .long v41])), (m5, .inl (k 1, 1000, .inl f5))] := hD
                refine lv_iload_n hx hb dX12_next_156 rfl (lv_at hl 1 rfl) ?_
                refine lv_bipush (v := 11) hx hb dX12_next_157 (by decide) ?_
                refine lv_icmp_le (tgt := 169) hx hb dX12_next_159 (by decide) (fun h_175 => ?_) (fun h_175 => ?_)
                · skip
                  have zh_175 : L102l1.toInt ≤ 11 := z_le h_175
                  exact False.elim (by omega)
                · skip
                  have zh_175 : 11 < L102l1.toInt := z_nle h_175
                  refine lv_aload_n hx hb dX12_next_162 rfl (lv_at hl 0 rfl) ?_
                  refine lv_ldc2 (v := (-1)) hx hb hown (hts _ tw_7_2) dX12_next_163 ?_
                  refine va_put (D := D) (ci := 12) (v := .long (-1)) (ty := tyX12 11) (C := RX12) (T := TX12) (N := 42) hx hb hts iT_X12 tyX12 tyX12_ok nmX12 hown hK hP hD hS 0 rfl rfl 11 (by decide) (hts _ tw_6_64) (fun _ h9 => h9) rfl (tyX12_ok 11 (by decide)) rfl rfl (Nat.le_of_ble_eq_true rfl) dX12_next_166 (fun H locs hP hD hS => ?_)
                  have hP : va_P D vwCl [(mo, .inr (12, [.int v0, .ref m1, .ref m2, .ref m3, .ref m4, .ref m5, .int v6, .int L102f0x7, .int 1, .int v7, .int 0, .long (-1), .int v12, .int v13, .int v14, .int v15, .ref m16, .ref m17, .ref m18, .ref m19, .ref m20, .ref m21, .ref m22, .ref m23, .int v24, .ref m25, .ref m26, .ref m27, .ref m28, .ref m29, .int v30, .ref m31, .ref m32, .ref m33, .int v34, .int v35, .int v36, .ref m37, .ref m38, .ref m39, .ref m40, .long v41])), (m5, .inl (k 1, 1000, .inl f5))] H := hP
                  have hD : va_D A [(mo, .inr (12, [.int v0, .ref m1, .ref m2, .ref m3, .ref m4, .ref m5, .int v6, .int L102f0x7, .int 1, .int v7, .int 0, .long (-1), .int v12, .int v13, .int v14, .int v15, .ref m16, .ref m17, .ref m18, .ref m19, .ref m20, .ref m21, .ref m22, .ref m23, .int v24, .ref m25, .ref m26, .ref m27, .ref m28, .ref m29, .int v30, .ref m31, .ref m32, .ref m33, .int v34, .int v35, .int v36, .ref m37, .ref m38, .ref m39, .ref m40, .long v41])), (m5, .inl (k 1, 1000, .inl f5))] := hD
                  refine lv_aload_n hx hb dX12_next_169 rfl (lv_at hl 0 rfl) ?_
                  refine lv_dup hx hb dX12_next_170 rfl ?_
                  refine va_get (D := D) (ci := 12) (v := .int L102f0x7) (C := RX12) (T := TX12) (N := 42) hx hb hts iT_X12 hown hK hP 0 rfl rfl 7 (by decide) (hts _ tw_6_60) (fun _ h9 => h9) rfl dX12_next_171 ?_
                  refine lv_iconst (v := 1) hx hb dX12_next_174 (by decide) ?_
                  refine lv_iadd hx hb dX12_next_175 ?_
                  refine lv_topi (fun x_176 ex_176 => ?_)
                  have zx_176 : x_176.toInt = L102f0x7.toInt + 1 := by rw [ex_176]; exact z_add rfl rfl (by omega) (by omega)
                  refine va_put (D := D) (ci := 12) (v := .int x_176) (ty := tyX12 7) (C := RX12) (T := TX12) (N := 42) hx hb hts iT_X12 tyX12 tyX12_ok nmX12 hown hK hP hD hS 0 rfl rfl 7 (by decide) (hts _ tw_6_60) (fun _ h9 => h9) rfl (tyX12_ok 7 (by decide)) rfl rfl (Nat.le_of_ble_eq_true rfl) dX12_next_176 (fun H locs hP hD hS => ?_)
                  have hP : va_P D vwCl [(mo, .inr (12, [.int v0, .ref m1, .ref m2, .ref m3, .ref m4, .ref m5, .int v6, .int x_176, .int 1, .int v7, .int 0, .long (-1), .int v12, .int v13, .int v14, .int v15, .ref m16, .ref m17, .ref m18, .ref m19, .ref m20, .ref m21, .ref m22, .ref m23, .int v24, .ref m25, .ref m26, .ref m27, .ref m28, .ref m29, .int v30, .ref m31, .ref m32, .ref m33, .int v34, .int v35, .int v36, .ref m37, .ref m38, .ref m39, .ref m40, .long v41])), (m5, .inl (k 1, 1000, .inl f5))] H := hP
                  have hD : va_D A [(mo, .inr (12, [.int v0, .ref m1, .ref m2, .ref m3, .ref m4, .ref m5, .int v6, .int x_176, .int 1, .int v7, .int 0, .long (-1), .int v12, .int v13, .int v14, .int v15, .ref m16, .ref m17, .ref m18, .ref m19, .ref m20, .ref m21, .ref m22, .ref m23, .int v24, .ref m25, .ref m26, .ref m27, .ref m28, .ref m29, .int v30, .ref m31, .ref m32, .ref m33, .int v34, .int v35, .int v36, .ref m37, .ref m38, .ref m39, .ref m40, .long v41])), (m5, .inl (k 1, 1000, .inl f5))] := hD
                  obtain ⟨x_177, ex_177⟩ : ∃ y : Int32, y = L102l1 + 1 := ⟨_, rfl⟩
                  have zrL102l1 := z_rng L102l1
                  refine lv_iinc (v := x_177) (lv' := [(1, .int x_177), (0, .ref mo)]) hx hb dX12_next_179 hl (k := 1) rfl (by rw [ex_177]; rfl) (by decide) rfl (fun ls hl => ?_)
                  refine lv_goto (tgt := 102) hx hb dX12_next_182 (by decide) ?_
                  exact ih_159 _ _ _ _ (by omega) ⟨x_177, x_176, (-1), rfl, (show 1 ≤ x_176.toInt ∧ x_176.toInt ≤ 1000 from by omega), (show x_176.toInt ≤ v6.toInt from by omega), (show v7.toInt < x_176.toInt from by omega), hP.sub (ws' := [(mo, .inr (12, [.int v0, .ref m1, .ref m2, .ref m3, .ref m4, .ref m5, .int v6, .int x_176, .int 1, .int v7, .int 0, .long (-1), .int v12, .int v13, .int v14, .int v15, .ref m16, .ref m17, .ref m18, .ref m19, .ref m20, .ref m21, .ref m22, .ref m23, .int v24, .ref m25, .ref m26, .ref m27, .ref m28, .ref m29, .int v30, .ref m31, .ref m32, .ref m33, .int v34, .int v35, .int v36, .ref m37, .ref m38, .ref m39, .ref m40, .long v41])), (m5, .inl (k 1, 1000, .inl f5))]) [0, 1] rfl, hD.sub (ws' := [(mo, .inr (12, [.int v0, .ref m1, .ref m2, .ref m3, .ref m4, .ref m5, .int v6, .int x_176, .int 1, .int v7, .int 0, .long (-1), .int v12, .int v13, .int v14, .int v15, .ref m16, .ref m17, .ref m18, .ref m19, .ref m20, .ref m21, .ref m22, .ref m23, .int v24, .ref m25, .ref m26, .ref m27, .ref m28, .ref m29, .int v30, .ref m31, .ref m32, .ref m33, .int v34, .int v35, .int v36, .ref m37, .ref m38, .ref m39, .ref m40, .long v41])), (m5, .inl (k 1, 1000, .inl f5))]) [0, 1] (by decide +kernel) rfl, hS, lv_sub hl [1, 0] rfl⟩
      · skip
        have zh_104 : v7.toInt = v6.toInt := z_eq h_104
        refine lv_aload_n hx hb dX12_next_72 rfl (lv_at hl 0 rfl) ?_
        refine lv_iconst (v := 0) hx hb dX12_next_73 (by decide) ?_
        refine va_put (D := D) (ci := 12) (v := .int 0) (ty := tyX12 8) (C := RX12) (T := TX12) (N := 42) hx hb hts iT_X12 tyX12 tyX12_ok nmX12 hown hK hP hD hS 0 rfl rfl 8 (by decide) (hts _ tw_6_61) (fun _ h9 => h9) rfl (tyX12_ok 8 (by decide)) rfl rfl (Nat.le_of_ble_eq_true rfl) dX12_next_74 (fun H locs hP hD hS => ?_)
        have hP : va_P D vwCl [(mo, .inr (12, [.int v0, .ref m1, .ref m2, .ref m3, .ref m4, .ref m5, .int v6, .int v7, .int 0, .int v7, .int 0, .long 0, .int v12, .int v13, .int v14, .int v15, .ref m16, .ref m17, .ref m18, .ref m19, .ref m20, .ref m21, .ref m22, .ref m23, .int v24, .ref m25, .ref m26, .ref m27, .ref m28, .ref m29, .int v30, .ref m31, .ref m32, .ref m33, .int v34, .int v35, .int v36, .ref m37, .ref m38, .ref m39, .ref m40, .long v41])), (m5, .inl (k 1, 1000, .inl f5))] H := hP
        have hD : va_D A [(mo, .inr (12, [.int v0, .ref m1, .ref m2, .ref m3, .ref m4, .ref m5, .int v6, .int v7, .int 0, .int v7, .int 0, .long 0, .int v12, .int v13, .int v14, .int v15, .ref m16, .ref m17, .ref m18, .ref m19, .ref m20, .ref m21, .ref m22, .ref m23, .int v24, .ref m25, .ref m26, .ref m27, .ref m28, .ref m29, .int v30, .ref m31, .ref m32, .ref m33, .int v34, .int v35, .int v36, .ref m37, .ref m38, .ref m39, .ref m40, .long v41])), (m5, .inl (k 1, 1000, .inl f5))] := hD
        refine lv_goto (tgt := 307) hx hb dX12_next_77 (by decide) ?_
        obtain ⟨hP9, hD9⟩ := sub2 hP hD (ws' := [(mo, .inr (12, [.int v0, .ref m1, .ref m2, .ref m3, .ref m4, .ref m5, .int v6, .int v7, .int 0, .int v7, .int 0, .long 0, .int v12, .int v13, .int v14, .int v15, .ref m16, .ref m17, .ref m18, .ref m19, .ref m20, .ref m21, .ref m22, .ref m23, .int v24, .ref m25, .ref m26, .ref m27, .ref m28, .ref m29, .int v30, .ref m31, .ref m32, .ref m33, .int v34, .int v35, .int v36, .ref m37, .ref m38, .ref m39, .ref m40, .long v41])), (m5, .inl (k 1, 1000, .inl f5))]) [0, 1] (by decide +kernel) rfl
        exact W.vret hx hb hr (fun tZ ht hW => ⟨⟨(v7, 0, v7, 0, 0), rfl, ⟨(show 0 ≤ v7.toInt ∧ v7.toInt ≤ 1000 from by omega), (show 0 ≤ 0 ∧ 0 ≤ 4 from by omega), (show 0 ≤ v7.toInt ∧ v7.toInt ≤ 1000 from by omega), (show v7.toInt ≤ v7.toInt ∧ v7.toInt ≤ v6.toInt from by omega), (show 0 = 0 ∨ v7.toInt < v7.toInt from by omega)⟩, by rw [ht]; exact hP9, va_K.moved hW.alike hK, hD9⟩, hS.F ht⟩) hS.2.2 dX12_next_307
    · skip
      have zh_103 : ¬ r_98.toInt = 0 := z_ne h_103
      refine lv_aload_n hx hb dX12_next_30 rfl (lv_at hl 0 rfl) ?_
      refine lv_dup hx hb dX12_next_31 rfl ?_
      refine va_get (D := D) (ci := 12) (v := .int v7) (C := RX12) (T := TX12) (N := 42) hx hb hts iT_X12 hown hK hP 0 rfl rfl 7 (by decide) (hts _ tw_6_60) (fun _ h9 => h9) rfl dX12_next_32 ?_
      refine lv_iconst (v := 1) hx hb dX12_next_35 (by decide) ?_
      refine lv_iadd hx hb dX12_next_36 ?_
      refine lv_topi (fun x_178 ex_178 => ?_)
      have zx_178 : x_178.toInt = v7.toInt + 1 := by rw [ex_178]; exact z_add rfl rfl (by omega) (by omega)
      refine va_put (D := D) (ci := 12) (v := .int x_178) (ty := tyX12 7) (C := RX12) (T := TX12) (N := 42) hx hb hts iT_X12 tyX12 tyX12_ok nmX12 hown hK hP hD hS 0 rfl rfl 7 (by decide) (hts _ tw_6_60) (fun _ h9 => h9) rfl (tyX12_ok 7 (by decide)) rfl rfl (Nat.le_of_ble_eq_true rfl) dX12_next_37 (fun H locs hP hD hS => ?_)
      have hP : va_P D vwCl [(mo, .inr (12, [.int v0, .ref m1, .ref m2, .ref m3, .ref m4, .ref m5, .int v6, .int x_178, .int v8, .int v9, .int v10, .long v11, .int v12, .int v13, .int v14, .int v15, .ref m16, .ref m17, .ref m18, .ref m19, .ref m20, .ref m21, .ref m22, .ref m23, .int v24, .ref m25, .ref m26, .ref m27, .ref m28, .ref m29, .int v30, .ref m31, .ref m32, .ref m33, .int v34, .int v35, .int v36, .ref m37, .ref m38, .ref m39, .ref m40, .long v41])), (m5, .inl (k 1, 1000, .inl f5))] H := hP
      have hD : va_D A [(mo, .inr (12, [.int v0, .ref m1, .ref m2, .ref m3, .ref m4, .ref m5, .int v6, .int x_178, .int v8, .int v9, .int v10, .long v11, .int v12, .int v13, .int v14, .int v15, .ref m16, .ref m17, .ref m18, .ref m19, .ref m20, .ref m21, .ref m22, .ref m23, .int v24, .ref m25, .ref m26, .ref m27, .ref m28, .ref m29, .int v30, .ref m31, .ref m32, .ref m33, .int v34, .int v35, .int v36, .ref m37, .ref m38, .ref m39, .ref m40, .long v41])), (m5, .inl (k 1, 1000, .inl f5))] := hD
      refine lv_goto (tgt := 0) hx hb dX12_next_40 (by decide) ?_
      refine loop_r (Wg := fun H locs ls => W p l e _ s m _ below meth c H locs _ _ _ (F0 m 0 ls [])) (fun n9 H locs ls => ∃ (L0f0x7 : Int32), n9 = (1000 - L0f0x7.toInt).toNat ∧ (1 ≤ L0f0x7.toInt ∧ L0f0x7.toInt ≤ 1000) ∧ (L0f0x7.toInt ≤ v6.toInt) ∧ (v7.toInt ≤ L0f0x7.toInt) ∧ va_P D vwCl [(mo, .inr (12, [.int v0, .ref m1, .ref m2, .ref m3, .ref m4, .ref m5, .int v6, .int L0f0x7, .int v8, .int v9, .int v10, .long v11, .int v12, .int v13, .int v14, .int v15, .ref m16, .ref m17, .ref m18, .ref m19, .ref m20, .ref m21, .ref m22, .ref m23, .int v24, .ref m25, .ref m26, .ref m27, .ref m28, .ref m29, .int v30, .ref m31, .ref m32, .ref m33, .int v34, .int v35, .int v36, .ref m37, .ref m38, .ref m39, .ref m40, .long v41])), (m5, .inl (k 1, 1000, .inl f5))] H ∧ va_D A [(mo, .inr (12, [.int v0, .ref m1, .ref m2, .ref m3, .ref m4, .ref m5, .int v6, .int L0f0x7, .int v8, .int v9, .int v10, .long v11, .int v12, .int v13, .int v14, .int v15, .ref m16, .ref m17, .ref m18, .ref m19, .ref m20, .ref m21, .ref m22, .ref m23, .int v24, .ref m25, .ref m26, .ref m27, .ref m28, .ref m29, .int v30, .ref m31, .ref m32, .ref m33, .int v34, .int v35, .int v36, .ref m37, .ref m38, .ref m39, .ref m40, .long v41])), (m5, .inl (k 1, 1000, .inl f5))] ∧ va_S A s.heap H locs ∧ lv_has ls 2 [(0, .ref mo)]) (fun n9 H locs ls hI ih_179 => ?_) _ _ _ _ ⟨x_178, rfl, (show 1 ≤ x_178.toInt ∧ x_178.toInt ≤ 1000 from by omega), (show x_178.toInt ≤ v6.toInt from by omega), (show v7.toInt ≤ x_178.toInt from by omega), hP.sub (ws' := [(mo, .inr (12, [.int v0, .ref m1, .ref m2, .ref m3, .ref m4, .ref m5, .int v6, .int x_178, .int v8, .int v9, .int v10, .long v11, .int v12, .int v13, .int v14, .int v15, .ref m16, .ref m17, .ref m18, .ref m19, .ref m20, .ref m21, .ref m22, .ref m23, .int v24, .ref m25, .ref m26, .ref m27, .ref m28, .ref m29, .int v30, .ref m31, .ref m32, .ref m33, .int v34, .int v35, .int v36, .ref m37, .ref m38, .ref m39, .ref m40, .long v41])), (m5, .inl (k 1, 1000, .inl f5))]) [0, 1] rfl, hD.sub (ws' := [(mo, .inr (12, [.int v0, .ref m1, .ref m2, .ref m3, .ref m4, .ref m5, .int v6, .int x_178, .int v8, .int v9, .int v10, .long v11, .int v12, .int v13, .int v14, .int v15, .ref m16, .ref m17, .ref m18, .ref m19, .ref m20, .ref m21, .ref m22, .ref m23, .int v24, .ref m25, .ref m26, .ref m27, .ref m28, .ref m29, .int v30, .ref m31, .ref m32, .ref m33, .int v34, .int v35, .int v36, .ref m37, .ref m38, .ref m39, .ref m40, .long v41])), (m5, .inl (k 1, 1000, .inl f5))]) [0, 1] (by decide +kernel) rfl, hS, lv_sub hl [0] rfl⟩
      clear hP hD hS hl
      obtain ⟨L0f0x7, en_180, zL0f0x7, hi0x0, hi0x1, hP, hD, hS, hl⟩ := hI
      refine lv_aload_n hx hb dX12_next_0 rfl (lv_at hl 0 rfl) ?_
      refine lv_aload_n hx hb dX12_next_1 rfl (lv_at hl 0 rfl) ?_
      refine va_get (D := D) (ci := 12) (v := .int L0f0x7) (C := RX12) (T := TX12) (N := 42) hx hb hts iT_X12 hown hK hP 0 rfl rfl 7 (by decide) (hts _ tw_6_60) (fun _ h9 => h9) rfl dX12_next_2 ?_
      refine lv_bipush (v := 32) hx hb dX12_next_5 (by decide) ?_
      refine lv_bipush (v := 32) hx hb dX12_next_7 (by decide) ?_
      obtain ⟨hPc, hDc, hFc⟩ := sub3 hP hD hS hA (ws' := [(mo, .inr (12, [.int v0, .ref m1, .ref m2, .ref m3, .ref m4, .ref m5, .int v6, .int L0f0x7, .int v8, .int v9, .int v10, .long v11, .int v12, .int v13, .int v14, .int v15, .ref m16, .ref m17, .ref m18, .ref m19, .ref m20, .ref m21, .ref m22, .ref m23, .int v24, .ref m25, .ref m26, .ref m27, .ref m28, .ref m29, .int v30, .ref m31, .ref m32, .ref m33, .int v34, .int v35, .int v36, .ref m37, .ref m38, .ref m39, .ref m40, .long v41])), (m5, .inl (k 1, 1000, .inl f5))]) [0, 1] (by decide +kernel) rfl
      refine va_calli (va_runV (C := RX12) (As := [.int L0f0x7, .int 32, .int 32]) (rest := []) ⟨hx, hb, hml, hown, hts⟩ (c_X12_isByte l D k mo L0f0x7 32 32 v0 m1 m2 m3 m4 m5 v6 L0f0x7 v8 v9 v10 v11 v12 v13 v14 v15 m16 m17 m18 m19 m20 m21 m22 m23 v24 m25 m26 m27 m28 m29 v30 m31 m32 m33 v34 v35 v36 m37 m38 m39 m40 v41 f5 H.size (show 0 ≤ L0f0x7.toInt ∧ L0f0x7.toInt ≤ 1000 from by omega) (show 0 ≤ v6.toInt ∧ v6.toInt ≤ 1000 from by omega) (show 0 ≤ v24.toInt ∧ v24.toInt ≤ 1023 from by omega)) (cwV 3 hts (gV tw_6_238 tw_7_0 tw_p_40 tw_1_13 tw_7_1) rfl rfl rfl hdV_X12_isByte ⟨Nat.le_of_ble_eq_true rfl, Nat.le_of_ble_eq_true rfl⟩) (cz_V hK hPc hDc hN (ci := 12) (q0 := 0) rfl rfl [.int L0f0x7, .int 32, .int 32]) rfl rfl hl.1 rfl (lv_room (Nat.le_of_ble_eq_true rfl)) dX12_next_9 ⟨Nat.le_of_ble_eq_true rfl, Nat.le_of_ble_eq_true rfl⟩) hS (fun q _ h => hFc q h) hFc (fun r_181 uZ tZ H1 locs ht hvm hw hB hz1 hk1 hS => ?_)
      obtain ⟨hP1, hK1, hD1⟩ := hB
      rw [ht] at hP1
      obtain ⟨hP, hD⟩ := va_join (wr := []) (w1 := [(mo, .inr (12, [.int v0, .ref m1, .ref m2, .ref m3, .ref m4, .ref m5, .int v6, .int L0f0x7, .int v8, .int v9, .int v10, .long v11, .int v12, .int v13, .int v14, .int v15, .ref m16, .ref m17, .ref m18, .ref m19, .ref m20, .ref m21, .ref m22, .ref m23, .int v24, .ref m25, .ref m26, .ref m27, .ref m28, .ref m29, .int v30, .ref m31, .ref m32, .ref m33, .int v34, .int v35, .int v36, .ref m37, .ref m38, .ref m39, .ref m40, .long v41])), (m5, .inl (k 1, 1000, .inl f5))]) hP hD [0, 1] [] rfl rfl (by decide +kernel) (by decide +kernel) hk1 hFc hP1 hD1
      clear hK1 hP1 hD1 hPc hDc hFc
      clear hk1 hz1 ht hvm
      have hP : va_P D vwCl [(mo, .inr (12, [.int v0, .ref m1, .ref m2, .ref m3, .ref m4, .ref m5, .int v6, .int L0f0x7, .int v8, .int v9, .int v10, .long v11, .int v12, .int v13, .int v14, .int v15, .ref m16, .ref m17, .ref m18, .ref m19, .ref m20, .ref m21, .ref m22, .ref m23, .int v24, .ref m25, .ref m26, .ref m27, .ref m28, .ref m29, .int v30, .ref m31, .ref m32, .ref m33, .int v34, .int v35, .int v36, .ref m37, .ref m38, .ref m39, .ref m40, .long v41])), (m5, .inl (k 1, 1000, .inl f5))] H1 := hP
      have hD : va_D A [(mo, .inr (12, [.int v0, .ref m1, .ref m2, .ref m3, .ref m4, .ref m5, .int v6, .int L0f0x7, .int v8, .int v9, .int v10, .long v11, .int v12, .int v13, .int v14, .int v15, .ref m16, .ref m17, .ref m18, .ref m19, .ref m20, .ref m21, .ref m22, .ref m23, .int v24, .ref m25, .ref m26, .ref m27, .ref m28, .ref m29, .int v30, .ref m31, .ref m32, .ref m33, .int v34, .int v35, .int v36, .ref m37, .ref m38, .ref m39, .ref m40, .long v41])), (m5, .inl (k 1, 1000, .inl f5))] := hD
      generalize H1 = H at hP hS ⊢
      have hw_182 : (0 ≤ r_181.toInt ∧ r_181.toInt ≤ 1) ∧ (r_181 = isByteOf f5 v6 L0f0x7 32 32) ∧ ((r_181.toInt = 1 ∧ L0f0x7.toInt < v6.toInt) ∨ r_181.toInt = 0) := hw
      obtain ⟨hw_183, hw_184, hw_185⟩ := hw_182
      clear hw
      refine lv_if_ne (tgt := 30) hx hb dX12_next_12 (by decide) (fun h_186 => ?_) (fun h_186 => ?_)
      · skip
        have zh_186 : ¬ r_181.toInt = 0 := z_ne h_186
        refine lv_aload_n hx hb dX12_next_30 rfl (lv_at hl 0 rfl) ?_
        refine lv_dup hx hb dX12_next_31 rfl ?_
        refine va_get (D := D) (ci := 12) (v := .int L0f0x7) (C := RX12) (T := TX12) (N := 42) hx hb hts iT_X12 hown hK hP 0 rfl rfl 7 (by decide) (hts _ tw_6_60) (fun _ h9 => h9) rfl dX12_next_32 ?_
        refine lv_iconst (v := 1) hx hb dX12_next_35 (by decide) ?_
        refine lv_iadd hx hb dX12_next_36 ?_
        refine lv_topi (fun x_187 ex_187 => ?_)
        have zx_187 : x_187.toInt = L0f0x7.toInt + 1 := by rw [ex_187]; exact z_add rfl rfl (by omega) (by omega)
        refine va_put (D := D) (ci := 12) (v := .int x_187) (ty := tyX12 7) (C := RX12) (T := TX12) (N := 42) hx hb hts iT_X12 tyX12 tyX12_ok nmX12 hown hK hP hD hS 0 rfl rfl 7 (by decide) (hts _ tw_6_60) (fun _ h9 => h9) rfl (tyX12_ok 7 (by decide)) rfl rfl (Nat.le_of_ble_eq_true rfl) dX12_next_37 (fun H locs hP hD hS => ?_)
        have hP : va_P D vwCl [(mo, .inr (12, [.int v0, .ref m1, .ref m2, .ref m3, .ref m4, .ref m5, .int v6, .int x_187, .int v8, .int v9, .int v10, .long v11, .int v12, .int v13, .int v14, .int v15, .ref m16, .ref m17, .ref m18, .ref m19, .ref m20, .ref m21, .ref m22, .ref m23, .int v24, .ref m25, .ref m26, .ref m27, .ref m28, .ref m29, .int v30, .ref m31, .ref m32, .ref m33, .int v34, .int v35, .int v36, .ref m37, .ref m38, .ref m39, .ref m40, .long v41])), (m5, .inl (k 1, 1000, .inl f5))] H := hP
        have hD : va_D A [(mo, .inr (12, [.int v0, .ref m1, .ref m2, .ref m3, .ref m4, .ref m5, .int v6, .int x_187, .int v8, .int v9, .int v10, .long v11, .int v12, .int v13, .int v14, .int v15, .ref m16, .ref m17, .ref m18, .ref m19, .ref m20, .ref m21, .ref m22, .ref m23, .int v24, .ref m25, .ref m26, .ref m27, .ref m28, .ref m29, .int v30, .ref m31, .ref m32, .ref m33, .int v34, .int v35, .int v36, .ref m37, .ref m38, .ref m39, .ref m40, .long v41])), (m5, .inl (k 1, 1000, .inl f5))] := hD
        refine lv_goto (tgt := 0) hx hb dX12_next_40 (by decide) ?_
        exact ih_179 _ _ _ _ (by omega) ⟨x_187, rfl, (show 1 ≤ x_187.toInt ∧ x_187.toInt ≤ 1000 from by omega), (show x_187.toInt ≤ v6.toInt from by omega), (show v7.toInt ≤ x_187.toInt from by omega), hP.sub (ws' := [(mo, .inr (12, [.int v0, .ref m1, .ref m2, .ref m3, .ref m4, .ref m5, .int v6, .int x_187, .int v8, .int v9, .int v10, .long v11, .int v12, .int v13, .int v14, .int v15, .ref m16, .ref m17, .ref m18, .ref m19, .ref m20, .ref m21, .ref m22, .ref m23, .int v24, .ref m25, .ref m26, .ref m27, .ref m28, .ref m29, .int v30, .ref m31, .ref m32, .ref m33, .int v34, .int v35, .int v36, .ref m37, .ref m38, .ref m39, .ref m40, .long v41])), (m5, .inl (k 1, 1000, .inl f5))]) [0, 1] rfl, hD.sub (ws' := [(mo, .inr (12, [.int v0, .ref m1, .ref m2, .ref m3, .ref m4, .ref m5, .int v6, .int x_187, .int v8, .int v9, .int v10, .long v11, .int v12, .int v13, .int v14, .int v15, .ref m16, .ref m17, .ref m18, .ref m19, .ref m20, .ref m21, .ref m22, .ref m23, .int v24, .ref m25, .ref m26, .ref m27, .ref m28, .ref m29, .int v30, .ref m31, .ref m32, .ref m33, .int v34, .int v35, .int v36, .ref m37, .ref m38, .ref m39, .ref m40, .long v41])), (m5, .inl (k 1, 1000, .inl f5))]) [0, 1] (by decide +kernel) rfl, hS, lv_sub hl [0] rfl⟩
      · skip
        have zh_186 : r_181.toInt = 0 := z_eq h_186
        refine lv_aload_n hx hb dX12_next_15 rfl (lv_at hl 0 rfl) ?_
        refine lv_aload_n hx hb dX12_next_16 rfl (lv_at hl 0 rfl) ?_
        refine va_get (D := D) (ci := 12) (v := .int L0f0x7) (C := RX12) (T := TX12) (N := 42) hx hb hts iT_X12 hown hK hP 0 rfl rfl 7 (by decide) (hts _ tw_6_60) (fun _ h9 => h9) rfl dX12_next_17 ?_
        refine lv_bipush (v := 10) hx hb dX12_next_20 (by decide) ?_
        refine lv_bipush (v := 10) hx hb dX12_next_22 (by decide) ?_
        obtain ⟨hPc, hDc, hFc⟩ := sub3 hP hD hS hA (ws' := [(mo, .inr (12, [.int v0, .ref m1, .ref m2, .ref m3, .ref m4, .ref m5, .int v6, .int L0f0x7, .int v8, .int v9, .int v10, .long v11, .int v12, .int v13, .int v14, .int v15, .ref m16, .ref m17, .ref m18, .ref m19, .ref m20, .ref m21, .ref m22, .ref m23, .int v24, .ref m25, .ref m26, .ref m27, .ref m28, .ref m29, .int v30, .ref m31, .ref m32, .ref m33, .int v34, .int v35, .int v36, .ref m37, .ref m38, .ref m39, .ref m40, .long v41])), (m5, .inl (k 1, 1000, .inl f5))]) [0, 1] (by decide +kernel) rfl
        refine va_calli (va_runV (C := RX12) (As := [.int L0f0x7, .int 10, .int 10]) (rest := []) ⟨hx, hb, hml, hown, hts⟩ (c_X12_isByte l D k mo L0f0x7 10 10 v0 m1 m2 m3 m4 m5 v6 L0f0x7 v8 v9 v10 v11 v12 v13 v14 v15 m16 m17 m18 m19 m20 m21 m22 m23 v24 m25 m26 m27 m28 m29 v30 m31 m32 m33 v34 v35 v36 m37 m38 m39 m40 v41 f5 H.size (show 0 ≤ L0f0x7.toInt ∧ L0f0x7.toInt ≤ 1000 from by omega) (show 0 ≤ v6.toInt ∧ v6.toInt ≤ 1000 from by omega) (show 0 ≤ v24.toInt ∧ v24.toInt ≤ 1023 from by omega)) (cwV 3 hts (gV tw_6_238 tw_7_0 tw_p_40 tw_1_13 tw_7_1) rfl rfl rfl hdV_X12_isByte ⟨Nat.le_of_ble_eq_true rfl, Nat.le_of_ble_eq_true rfl⟩) (cz_V hK hPc hDc hN (ci := 12) (q0 := 0) rfl rfl [.int L0f0x7, .int 10, .int 10]) rfl rfl hl.1 rfl (lv_room (Nat.le_of_ble_eq_true rfl)) dX12_next_24 ⟨Nat.le_of_ble_eq_true rfl, Nat.le_of_ble_eq_true rfl⟩) hS (fun q _ h => hFc q h) hFc (fun r_188 uZ tZ H1 locs ht hvm hw hB hz1 hk1 hS => ?_)
        obtain ⟨hP1, hK1, hD1⟩ := hB
        rw [ht] at hP1
        obtain ⟨hP, hD⟩ := va_join (wr := []) (w1 := [(mo, .inr (12, [.int v0, .ref m1, .ref m2, .ref m3, .ref m4, .ref m5, .int v6, .int L0f0x7, .int v8, .int v9, .int v10, .long v11, .int v12, .int v13, .int v14, .int v15, .ref m16, .ref m17, .ref m18, .ref m19, .ref m20, .ref m21, .ref m22, .ref m23, .int v24, .ref m25, .ref m26, .ref m27, .ref m28, .ref m29, .int v30, .ref m31, .ref m32, .ref m33, .int v34, .int v35, .int v36, .ref m37, .ref m38, .ref m39, .ref m40, .long v41])), (m5, .inl (k 1, 1000, .inl f5))]) hP hD [0, 1] [] rfl rfl (by decide +kernel) (by decide +kernel) hk1 hFc hP1 hD1
        clear hK1 hP1 hD1 hPc hDc hFc
        clear hk1 hz1 ht hvm
        have hP : va_P D vwCl [(mo, .inr (12, [.int v0, .ref m1, .ref m2, .ref m3, .ref m4, .ref m5, .int v6, .int L0f0x7, .int v8, .int v9, .int v10, .long v11, .int v12, .int v13, .int v14, .int v15, .ref m16, .ref m17, .ref m18, .ref m19, .ref m20, .ref m21, .ref m22, .ref m23, .int v24, .ref m25, .ref m26, .ref m27, .ref m28, .ref m29, .int v30, .ref m31, .ref m32, .ref m33, .int v34, .int v35, .int v36, .ref m37, .ref m38, .ref m39, .ref m40, .long v41])), (m5, .inl (k 1, 1000, .inl f5))] H1 := hP
        have hD : va_D A [(mo, .inr (12, [.int v0, .ref m1, .ref m2, .ref m3, .ref m4, .ref m5, .int v6, .int L0f0x7, .int v8, .int v9, .int v10, .long v11, .int v12, .int v13, .int v14, .int v15, .ref m16, .ref m17, .ref m18, .ref m19, .ref m20, .ref m21, .ref m22, .ref m23, .int v24, .ref m25, .ref m26, .ref m27, .ref m28, .ref m29, .int v30, .ref m31, .ref m32, .ref m33, .int v34, .int v35, .int v36, .ref m37, .ref m38, .ref m39, .ref m40, .long v41])), (m5, .inl (k 1, 1000, .inl f5))] := hD
        generalize H1 = H at hP hS ⊢
        have hw_189 : (0 ≤ r_188.toInt ∧ r_188.toInt ≤ 1) ∧ (r_188 = isByteOf f5 v6 L0f0x7 10 10) ∧ ((r_188.toInt = 1 ∧ L0f0x7.toInt < v6.toInt) ∨ r_188.toInt = 0) := hw
        obtain ⟨hw_190, hw_191, hw_192⟩ := hw_189
        clear hw
        refine lv_if_eq (tgt := 43) hx hb dX12_next_27 (by decide) (fun h_193 => ?_) (fun h_193 => ?_)
        · skip
          have zh_193 : r_188.toInt = 0 := z_eq h_193
          refine lv_aload_n hx hb dX12_next_43 rfl (lv_at hl 0 rfl) ?_
          refine lv_aload_n hx hb dX12_next_44 rfl (lv_at hl 0 rfl) ?_
          refine va_get (D := D) (ci := 12) (v := .int L0f0x7) (C := RX12) (T := TX12) (N := 42) hx hb hts iT_X12 hown hK hP 0 rfl rfl 7 (by decide) (hts _ tw_6_60) (fun _ h9 => h9) rfl dX12_next_45 ?_
          refine va_put (D := D) (ci := 12) (v := .int L0f0x7) (ty := tyX12 9) (C := RX12) (T := TX12) (N := 42) hx hb hts iT_X12 tyX12 tyX12_ok nmX12 hown hK hP hD hS 0 rfl rfl 9 (by decide) (hts _ tw_6_62) (fun _ h9 => h9) rfl (tyX12_ok 9 (by decide)) rfl rfl (Nat.le_of_ble_eq_true rfl) dX12_next_48 (fun H locs hP hD hS => ?_)
          have hP : va_P D vwCl [(mo, .inr (12, [.int v0, .ref m1, .ref m2, .ref m3, .ref m4, .ref m5, .int v6, .int L0f0x7, .int v8, .int L0f0x7, .int v10, .long v11, .int v12, .int v13, .int v14, .int v15, .ref m16, .ref m17, .ref m18, .ref m19, .ref m20, .ref m21, .ref m22, .ref m23, .int v24, .ref m25, .ref m26, .ref m27, .ref m28, .ref m29, .int v30, .ref m31, .ref m32, .ref m33, .int v34, .int v35, .int v36, .ref m37, .ref m38, .ref m39, .ref m40, .long v41])), (m5, .inl (k 1, 1000, .inl f5))] H := hP
          have hD : va_D A [(mo, .inr (12, [.int v0, .ref m1, .ref m2, .ref m3, .ref m4, .ref m5, .int v6, .int L0f0x7, .int v8, .int L0f0x7, .int v10, .long v11, .int v12, .int v13, .int v14, .int v15, .ref m16, .ref m17, .ref m18, .ref m19, .ref m20, .ref m21, .ref m22, .ref m23, .int v24, .ref m25, .ref m26, .ref m27, .ref m28, .ref m29, .int v30, .ref m31, .ref m32, .ref m33, .int v34, .int v35, .int v36, .ref m37, .ref m38, .ref m39, .ref m40, .long v41])), (m5, .inl (k 1, 1000, .inl f5))] := hD
          refine lv_aload_n hx hb dX12_next_51 rfl (lv_at hl 0 rfl) ?_
          refine lv_iconst (v := 0) hx hb dX12_next_52 (by decide) ?_
          refine va_put (D := D) (ci := 12) (v := .int 0) (ty := tyX12 10) (C := RX12) (T := TX12) (N := 42) hx hb hts iT_X12 tyX12 tyX12_ok nmX12 hown hK hP hD hS 0 rfl rfl 10 (by decide) (hts _ tw_6_63) (fun _ h9 => h9) rfl (tyX12_ok 10 (by decide)) rfl rfl (Nat.le_of_ble_eq_true rfl) dX12_next_53 (fun H locs hP hD hS => ?_)
          have hP : va_P D vwCl [(mo, .inr (12, [.int v0, .ref m1, .ref m2, .ref m3, .ref m4, .ref m5, .int v6, .int L0f0x7, .int v8, .int L0f0x7, .int 0, .long v11, .int v12, .int v13, .int v14, .int v15, .ref m16, .ref m17, .ref m18, .ref m19, .ref m20, .ref m21, .ref m22, .ref m23, .int v24, .ref m25, .ref m26, .ref m27, .ref m28, .ref m29, .int v30, .ref m31, .ref m32, .ref m33, .int v34, .int v35, .int v36, .ref m37, .ref m38, .ref m39, .ref m40, .long v41])), (m5, .inl (k 1, 1000, .inl f5))] H := hP
          have hD : va_D A [(mo, .inr (12, [.int v0, .ref m1, .ref m2, .ref m3, .ref m4, .ref m5, .int v6, .int L0f0x7, .int v8, .int L0f0x7, .int 0, .long v11, .int v12, .int v13, .int v14, .int v15, .ref m16, .ref m17, .ref m18, .ref m19, .ref m20, .ref m21, .ref m22, .ref m23, .int v24, .ref m25, .ref m26, .ref m27, .ref m28, .ref m29, .int v30, .ref m31, .ref m32, .ref m33, .int v34, .int v35, .int v36, .ref m37, .ref m38, .ref m39, .ref m40, .long v41])), (m5, .inl (k 1, 1000, .inl f5))] := hD
          refine lv_aload_n hx hb dX12_next_56 rfl (lv_at hl 0 rfl) ?_
          refine lv_lconst (v := 0) hx hb dX12_next_57 (by decide) ?_
          refine va_put (D := D) (ci := 12) (v := .long 0) (ty := tyX12 11) (C := RX12) (T := TX12) (N := 42) hx hb hts iT_X12 tyX12 tyX12_ok nmX12 hown hK hP hD hS 0 rfl rfl 11 (by decide) (hts _ tw_6_64) (fun _ h9 => h9) rfl (tyX12_ok 11 (by decide)) rfl rfl (Nat.le_of_ble_eq_true rfl) dX12_next_58 (fun H locs hP hD hS => ?_)
          have hP : va_P D vwCl [(mo, .inr (12, [.int v0, .ref m1, .ref m2, .ref m3, .ref m4, .ref m5, .int v6, .int L0f0x7, .int v8, .int L0f0x7, .int 0, .long 0, .int v12, .int v13, .int v14, .int v15, .ref m16, .ref m17, .ref m18, .ref m19, .ref m20, .ref m21, .ref m22, .ref m23, .int v24, .ref m25, .ref m26, .ref m27, .ref m28, .ref m29, .int v30, .ref m31, .ref m32, .ref m33, .int v34, .int v35, .int v36, .ref m37, .ref m38, .ref m39, .ref m40, .long v41])), (m5, .inl (k 1, 1000, .inl f5))] H := hP
          have hD : va_D A [(mo, .inr (12, [.int v0, .ref m1, .ref m2, .ref m3, .ref m4, .ref m5, .int v6, .int L0f0x7, .int v8, .int L0f0x7, .int 0, .long 0, .int v12, .int v13, .int v14, .int v15, .ref m16, .ref m17, .ref m18, .ref m19, .ref m20, .ref m21, .ref m22, .ref m23, .int v24, .ref m25, .ref m26, .ref m27, .ref m28, .ref m29, .int v30, .ref m31, .ref m32, .ref m33, .int v34, .int v35, .int v36, .ref m37, .ref m38, .ref m39, .ref m40, .long v41])), (m5, .inl (k 1, 1000, .inl f5))] := hD
          refine lv_aload_n hx hb dX12_next_61 rfl (lv_at hl 0 rfl) ?_
          refine va_get (D := D) (ci := 12) (v := .int L0f0x7) (C := RX12) (T := TX12) (N := 42) hx hb hts iT_X12 hown hK hP 0 rfl rfl 7 (by decide) (hts _ tw_6_60) (fun _ h9 => h9) rfl dX12_next_62 ?_
          refine lv_aload_n hx hb dX12_next_65 rfl (lv_at hl 0 rfl) ?_
          refine va_get (D := D) (ci := 12) (v := .int v6) (C := RX12) (T := TX12) (N := 42) hx hb hts iT_X12 hown hK hP 0 rfl rfl 6 (by decide) (hts _ tw_6_59) (fun _ h9 => h9) rfl dX12_next_66 ?_
          refine lv_icmp_ne (tgt := 80) hx hb dX12_next_69 (by decide) (fun h_194 => ?_) (fun h_194 => ?_)
          · skip
            have zh_194 : ¬ L0f0x7.toInt = v6.toInt := z_ne h_194
            refine lv_aload_n hx hb dX12_next_80 rfl (lv_at hl 0 rfl) ?_
            refine lv_aload_n hx hb dX12_next_81 rfl (lv_at hl 0 rfl) ?_
            refine va_get (D := D) (ci := 12) (v := .int L0f0x7) (C := RX12) (T := TX12) (N := 42) hx hb hts iT_X12 hown hK hP 0 rfl rfl 7 (by decide) (hts _ tw_6_60) (fun _ h9 => h9) rfl dX12_next_82 ?_
            refine lv_bipush (v := 97) hx hb dX12_next_85 (by decide) ?_
            refine lv_bipush (v := 122) hx hb dX12_next_87 (by decide) ?_
            obtain ⟨hPc, hDc, hFc⟩ := sub3 hP hD hS hA (ws' := [(mo, .inr (12, [.int v0, .ref m1, .ref m2, .ref m3, .ref m4, .ref m5, .int v6, .int L0f0x7, .int v8, .int L0f0x7, .int 0, .long 0, .int v12, .int v13, .int v14, .int v15, .ref m16, .ref m17, .ref m18, .ref m19, .ref m20, .ref m21, .ref m22, .ref m23, .int v24, .ref m25, .ref m26, .ref m27, .ref m28, .ref m29, .int v30, .ref m31, .ref m32, .ref m33, .int v34, .int v35, .int v36, .ref m37, .ref m38, .ref m39, .ref m40, .long v41])), (m5, .inl (k 1, 1000, .inl f5))]) [0, 1] (by decide +kernel) rfl
            refine va_calli (va_runV (C := RX12) (As := [.int L0f0x7, .int 97, .int 122]) (rest := []) ⟨hx, hb, hml, hown, hts⟩ (c_X12_isByte l D k mo L0f0x7 97 122 v0 m1 m2 m3 m4 m5 v6 L0f0x7 v8 L0f0x7 0 0 v12 v13 v14 v15 m16 m17 m18 m19 m20 m21 m22 m23 v24 m25 m26 m27 m28 m29 v30 m31 m32 m33 v34 v35 v36 m37 m38 m39 m40 v41 f5 H.size (show 0 ≤ L0f0x7.toInt ∧ L0f0x7.toInt ≤ 1000 from by omega) (show 0 ≤ v6.toInt ∧ v6.toInt ≤ 1000 from by omega) (show 0 ≤ v24.toInt ∧ v24.toInt ≤ 1023 from by omega)) (cwV 3 hts (gV tw_6_238 tw_7_0 tw_p_40 tw_1_13 tw_7_1) rfl rfl rfl hdV_X12_isByte ⟨Nat.le_of_ble_eq_true rfl, Nat.le_of_ble_eq_true rfl⟩) (cz_V hK hPc hDc hN (ci := 12) (q0 := 0) rfl rfl [.int L0f0x7, .int 97, .int 122]) rfl rfl hl.1 rfl (lv_room (Nat.le_of_ble_eq_true rfl)) dX12_next_89 ⟨Nat.le_of_ble_eq_true rfl, Nat.le_of_ble_eq_true rfl⟩) hS (fun q _ h => hFc q h) hFc (fun r_195 uZ tZ H1 locs ht hvm hw hB hz1 hk1 hS => ?_)
            obtain ⟨hP1, hK1, hD1⟩ := hB
            rw [ht] at hP1
            obtain ⟨hP, hD⟩ := va_join (wr := []) (w1 := [(mo, .inr (12, [.int v0, .ref m1, .ref m2, .ref m3, .ref m4, .ref m5, .int v6, .int L0f0x7, .int v8, .int L0f0x7, .int 0, .long 0, .int v12, .int v13, .int v14, .int v15, .ref m16, .ref m17, .ref m18, .ref m19, .ref m20, .ref m21, .ref m22, .ref m23, .int v24, .ref m25, .ref m26, .ref m27, .ref m28, .ref m29, .int v30, .ref m31, .ref m32, .ref m33, .int v34, .int v35, .int v36, .ref m37, .ref m38, .ref m39, .ref m40, .long v41])), (m5, .inl (k 1, 1000, .inl f5))]) hP hD [0, 1] [] rfl rfl (by decide +kernel) (by decide +kernel) hk1 hFc hP1 hD1
            clear hK1 hP1 hD1 hPc hDc hFc
            clear hk1 hz1 ht hvm
            have hP : va_P D vwCl [(mo, .inr (12, [.int v0, .ref m1, .ref m2, .ref m3, .ref m4, .ref m5, .int v6, .int L0f0x7, .int v8, .int L0f0x7, .int 0, .long 0, .int v12, .int v13, .int v14, .int v15, .ref m16, .ref m17, .ref m18, .ref m19, .ref m20, .ref m21, .ref m22, .ref m23, .int v24, .ref m25, .ref m26, .ref m27, .ref m28, .ref m29, .int v30, .ref m31, .ref m32, .ref m33, .int v34, .int v35, .int v36, .ref m37, .ref m38, .ref m39, .ref m40, .long v41])), (m5, .inl (k 1, 1000, .inl f5))] H1 := hP
            have hD : va_D A [(mo, .inr (12, [.int v0, .ref m1, .ref m2, .ref m3, .ref m4, .ref m5, .int v6, .int L0f0x7, .int v8, .int L0f0x7, .int 0, .long 0, .int v12, .int v13, .int v14, .int v15, .ref m16, .ref m17, .ref m18, .ref m19, .ref m20, .ref m21, .ref m22, .ref m23, .int v24, .ref m25, .ref m26, .ref m27, .ref m28, .ref m29, .int v30, .ref m31, .ref m32, .ref m33, .int v34, .int v35, .int v36, .ref m37, .ref m38, .ref m39, .ref m40, .long v41])), (m5, .inl (k 1, 1000, .inl f5))] := hD
            generalize H1 = H at hP hS ⊢
            have hw_196 : (0 ≤ r_195.toInt ∧ r_195.toInt ≤ 1) ∧ (r_195 = isByteOf f5 v6 L0f0x7 97 122) ∧ ((r_195.toInt = 1 ∧ L0f0x7.toInt < v6.toInt) ∨ r_195.toInt = 0) := hw
            obtain ⟨hw_197, hw_198, hw_199⟩ := hw_196
            clear hw
            refine lv_if_eq (tgt := 188) hx hb dX12_next_92 (by decide) (fun h_200 => ?_) (fun h_200 => ?_)
            · skip
              have zh_200 : r_195.toInt = 0 := z_eq h_200
              refine lv_aload_n hx hb dX12_next_188 rfl (lv_at hl 0 rfl) ?_
              refine lv_aload_n hx hb dX12_next_189 rfl (lv_at hl 0 rfl) ?_
              refine va_get (D := D) (ci := 12) (v := .int L0f0x7) (C := RX12) (T := TX12) (N := 42) hx hb hts iT_X12 hown hK hP 0 rfl rfl 7 (by decide) (hts _ tw_6_60) (fun _ h9 => h9) rfl dX12_next_190 ?_
              refine lv_bipush (v := 48) hx hb dX12_next_193 (by decide) ?_
              refine lv_bipush (v := 57) hx hb dX12_next_195 (by decide) ?_
              obtain ⟨hPc, hDc, hFc⟩ := sub3 hP hD hS hA (ws' := [(mo, .inr (12, [.int v0, .ref m1, .ref m2, .ref m3, .ref m4, .ref m5, .int v6, .int L0f0x7, .int v8, .int L0f0x7, .int 0, .long 0, .int v12, .int v13, .int v14, .int v15, .ref m16, .ref m17, .ref m18, .ref m19, .ref m20, .ref m21, .ref m22, .ref m23, .int v24, .ref m25, .ref m26, .ref m27, .ref m28, .ref m29, .int v30, .ref m31, .ref m32, .ref m33, .int v34, .int v35, .int v36, .ref m37, .ref m38, .ref m39, .ref m40, .long v41])), (m5, .inl (k 1, 1000, .inl f5))]) [0, 1] (by decide +kernel) rfl
              refine va_calli (va_runV (C := RX12) (As := [.int L0f0x7, .int 48, .int 57]) (rest := []) ⟨hx, hb, hml, hown, hts⟩ (c_X12_isByte l D k mo L0f0x7 48 57 v0 m1 m2 m3 m4 m5 v6 L0f0x7 v8 L0f0x7 0 0 v12 v13 v14 v15 m16 m17 m18 m19 m20 m21 m22 m23 v24 m25 m26 m27 m28 m29 v30 m31 m32 m33 v34 v35 v36 m37 m38 m39 m40 v41 f5 H.size (show 0 ≤ L0f0x7.toInt ∧ L0f0x7.toInt ≤ 1000 from by omega) (show 0 ≤ v6.toInt ∧ v6.toInt ≤ 1000 from by omega) (show 0 ≤ v24.toInt ∧ v24.toInt ≤ 1023 from by omega)) (cwV 3 hts (gV tw_6_238 tw_7_0 tw_p_40 tw_1_13 tw_7_1) rfl rfl rfl hdV_X12_isByte ⟨Nat.le_of_ble_eq_true rfl, Nat.le_of_ble_eq_true rfl⟩) (cz_V hK hPc hDc hN (ci := 12) (q0 := 0) rfl rfl [.int L0f0x7, .int 48, .int 57]) rfl rfl hl.1 rfl (lv_room (Nat.le_of_ble_eq_true rfl)) dX12_next_197 ⟨Nat.le_of_ble_eq_true rfl, Nat.le_of_ble_eq_true rfl⟩) hS (fun q _ h => hFc q h) hFc (fun r_201 uZ tZ H1 locs ht hvm hw hB hz1 hk1 hS => ?_)
              obtain ⟨hP1, hK1, hD1⟩ := hB
              rw [ht] at hP1
              obtain ⟨hP, hD⟩ := va_join (wr := []) (w1 := [(mo, .inr (12, [.int v0, .ref m1, .ref m2, .ref m3, .ref m4, .ref m5, .int v6, .int L0f0x7, .int v8, .int L0f0x7, .int 0, .long 0, .int v12, .int v13, .int v14, .int v15, .ref m16, .ref m17, .ref m18, .ref m19, .ref m20, .ref m21, .ref m22, .ref m23, .int v24, .ref m25, .ref m26, .ref m27, .ref m28, .ref m29, .int v30, .ref m31, .ref m32, .ref m33, .int v34, .int v35, .int v36, .ref m37, .ref m38, .ref m39, .ref m40, .long v41])), (m5, .inl (k 1, 1000, .inl f5))]) hP hD [0, 1] [] rfl rfl (by decide +kernel) (by decide +kernel) hk1 hFc hP1 hD1
              clear hK1 hP1 hD1 hPc hDc hFc
              clear hk1 hz1 ht hvm
              have hP : va_P D vwCl [(mo, .inr (12, [.int v0, .ref m1, .ref m2, .ref m3, .ref m4, .ref m5, .int v6, .int L0f0x7, .int v8, .int L0f0x7, .int 0, .long 0, .int v12, .int v13, .int v14, .int v15, .ref m16, .ref m17, .ref m18, .ref m19, .ref m20, .ref m21, .ref m22, .ref m23, .int v24, .ref m25, .ref m26, .ref m27, .ref m28, .ref m29, .int v30, .ref m31, .ref m32, .ref m33, .int v34, .int v35, .int v36, .ref m37, .ref m38, .ref m39, .ref m40, .long v41])), (m5, .inl (k 1, 1000, .inl f5))] H1 := hP
              have hD : va_D A [(mo, .inr (12, [.int v0, .ref m1, .ref m2, .ref m3, .ref m4, .ref m5, .int v6, .int L0f0x7, .int v8, .int L0f0x7, .int 0, .long 0, .int v12, .int v13, .int v14, .int v15, .ref m16, .ref m17, .ref m18, .ref m19, .ref m20, .ref m21, .ref m22, .ref m23, .int v24, .ref m25, .ref m26, .ref m27, .ref m28, .ref m29, .int v30, .ref m31, .ref m32, .ref m33, .int v34, .int v35, .int v36, .ref m37, .ref m38, .ref m39, .ref m40, .long v41])), (m5, .inl (k 1, 1000, .inl f5))] := hD
              generalize H1 = H at hP hS ⊢
              have hw_202 : (0 ≤ r_201.toInt ∧ r_201.toInt ≤ 1) ∧ (r_201 = isByteOf f5 v6 L0f0x7 48 57) ∧ ((r_201.toInt = 1 ∧ L0f0x7.toInt < v6.toInt) ∨ r_201.toInt = 0) := hw
              obtain ⟨hw_203, hw_204, hw_205⟩ := hw_202
              clear hw
              refine lv_if_eq (tgt := 274) hx hb dX12_next_200 (by decide) (fun h_206 => ?_) (fun h_206 => ?_)
              · skip
                have zh_206 : r_201.toInt = 0 := z_eq h_206
                refine lv_aload_n hx hb dX12_next_274 rfl (lv_at hl 0 rfl) ?_
                refine lv_aload_n hx hb dX12_next_275 rfl (lv_at hl 0 rfl) ?_
                refine va_get (D := D) (ci := 12) (v := .ref m5) (C := RX12) (T := TX12) (N := 42) hx hb hts iT_X12 hown hK hP 0 rfl rfl 5 (by decide) (hts _ tw_6_58) (fun _ h9 => h9) rfl dX12_next_276 ?_
                refine lv_aload_n hx hb dX12_next_279 rfl (lv_at hl 0 rfl) ?_
                refine va_get (D := D) (ci := 12) (v := .int L0f0x7) (C := RX12) (T := TX12) (N := 42) hx hb hts iT_X12 hown hK hP 0 rfl rfl 7 (by decide) (hts _ tw_6_60) (fun _ h9 => h9) rfl dX12_next_280 ?_
                refine va_bald hx hb hK hP 1 1 rfl rfl (z_in (by omega) (by omega)) dX12_next_283 ?_
                refine lv_topi (fun x_207 ex_207 => ?_)
                refine lv_bipush (v := 59) hx hb dX12_next_284 (by decide) ?_
                refine lv_icmp_ne (tgt := 293) hx hb dX12_next_286 (by decide) (fun h_208 => ?_) (fun h_208 => ?_)
                · skip
                  have zh_208 : ¬ x_207.toInt = 59 := z_ne h_208
                  refine lv_iconst (v := 4) hx hb dX12_next_293 (by decide) ?_
                  refine va_put (D := D) (ci := 12) (v := .int 4) (ty := tyX12 8) (C := RX12) (T := TX12) (N := 42) hx hb hts iT_X12 tyX12 tyX12_ok nmX12 hown hK hP hD hS 0 rfl rfl 8 (by decide) (hts _ tw_6_61) (fun _ h9 => h9) rfl (tyX12_ok 8 (by decide)) rfl rfl (Nat.le_of_ble_eq_true rfl) dX12_next_294 (fun H locs hP hD hS => ?_)
                  have hP : va_P D vwCl [(mo, .inr (12, [.int v0, .ref m1, .ref m2, .ref m3, .ref m4, .ref m5, .int v6, .int L0f0x7, .int 4, .int L0f0x7, .int 0, .long 0, .int v12, .int v13, .int v14, .int v15, .ref m16, .ref m17, .ref m18, .ref m19, .ref m20, .ref m21, .ref m22, .ref m23, .int v24, .ref m25, .ref m26, .ref m27, .ref m28, .ref m29, .int v30, .ref m31, .ref m32, .ref m33, .int v34, .int v35, .int v36, .ref m37, .ref m38, .ref m39, .ref m40, .long v41])), (m5, .inl (k 1, 1000, .inl f5))] H := hP
                  have hD : va_D A [(mo, .inr (12, [.int v0, .ref m1, .ref m2, .ref m3, .ref m4, .ref m5, .int v6, .int L0f0x7, .int 4, .int L0f0x7, .int 0, .long 0, .int v12, .int v13, .int v14, .int v15, .ref m16, .ref m17, .ref m18, .ref m19, .ref m20, .ref m21, .ref m22, .ref m23, .int v24, .ref m25, .ref m26, .ref m27, .ref m28, .ref m29, .int v30, .ref m31, .ref m32, .ref m33, .int v34, .int v35, .int v36, .ref m37, .ref m38, .ref m39, .ref m40, .long v41])), (m5, .inl (k 1, 1000, .inl f5))] := hD
                  refine lv_aload_n hx hb dX12_next_297 rfl (lv_at hl 0 rfl) ?_
                  refine lv_dup hx hb dX12_next_298 rfl ?_
                  refine va_get (D := D) (ci := 12) (v := .int L0f0x7) (C := RX12) (T := TX12) (N := 42) hx hb hts iT_X12 hown hK hP 0 rfl rfl 7 (by decide) (hts _ tw_6_60) (fun _ h9 => h9) rfl dX12_next_299 ?_
                  refine lv_iconst (v := 1) hx hb dX12_next_302 (by decide) ?_
                  refine lv_iadd hx hb dX12_next_303 ?_
                  refine lv_topi (fun x_209 ex_209 => ?_)
                  have zx_209 : x_209.toInt = L0f0x7.toInt + 1 := by rw [ex_209]; exact z_add rfl rfl (by omega) (by omega)
                  refine va_put (D := D) (ci := 12) (v := .int x_209) (ty := tyX12 7) (C := RX12) (T := TX12) (N := 42) hx hb hts iT_X12 tyX12 tyX12_ok nmX12 hown hK hP hD hS 0 rfl rfl 7 (by decide) (hts _ tw_6_60) (fun _ h9 => h9) rfl (tyX12_ok 7 (by decide)) rfl rfl (Nat.le_of_ble_eq_true rfl) dX12_next_304 (fun H locs hP hD hS => ?_)
                  have hP : va_P D vwCl [(mo, .inr (12, [.int v0, .ref m1, .ref m2, .ref m3, .ref m4, .ref m5, .int v6, .int x_209, .int 4, .int L0f0x7, .int 0, .long 0, .int v12, .int v13, .int v14, .int v15, .ref m16, .ref m17, .ref m18, .ref m19, .ref m20, .ref m21, .ref m22, .ref m23, .int v24, .ref m25, .ref m26, .ref m27, .ref m28, .ref m29, .int v30, .ref m31, .ref m32, .ref m33, .int v34, .int v35, .int v36, .ref m37, .ref m38, .ref m39, .ref m40, .long v41])), (m5, .inl (k 1, 1000, .inl f5))] H := hP
                  have hD : va_D A [(mo, .inr (12, [.int v0, .ref m1, .ref m2, .ref m3, .ref m4, .ref m5, .int v6, .int x_209, .int 4, .int L0f0x7, .int 0, .long 0, .int v12, .int v13, .int v14, .int v15, .ref m16, .ref m17, .ref m18, .ref m19, .ref m20, .ref m21, .ref m22, .ref m23, .int v24, .ref m25, .ref m26, .ref m27, .ref m28, .ref m29, .int v30, .ref m31, .ref m32, .ref m33, .int v34, .int v35, .int v36, .ref m37, .ref m38, .ref m39, .ref m40, .long v41])), (m5, .inl (k 1, 1000, .inl f5))] := hD
                  obtain ⟨hP9, hD9⟩ := sub2 hP hD (ws' := [(mo, .inr (12, [.int v0, .ref m1, .ref m2, .ref m3, .ref m4, .ref m5, .int v6, .int x_209, .int 4, .int L0f0x7, .int 0, .long 0, .int v12, .int v13, .int v14, .int v15, .ref m16, .ref m17, .ref m18, .ref m19, .ref m20, .ref m21, .ref m22, .ref m23, .int v24, .ref m25, .ref m26, .ref m27, .ref m28, .ref m29, .int v30, .ref m31, .ref m32, .ref m33, .int v34, .int v35, .int v36, .ref m37, .ref m38, .ref m39, .ref m40, .long v41])), (m5, .inl (k 1, 1000, .inl f5))]) [0, 1] (by decide +kernel) rfl
                  exact W.vret hx hb hr (fun tZ ht hW => ⟨⟨(x_209, 4, L0f0x7, 0, 0), rfl, ⟨(show 0 ≤ x_209.toInt ∧ x_209.toInt ≤ 1000 from by omega), (show 0 ≤ 4 ∧ 4 ≤ 4 from by omega), (show 0 ≤ L0f0x7.toInt ∧ L0f0x7.toInt ≤ 1000 from by omega), (show v7.toInt ≤ x_209.toInt ∧ x_209.toInt ≤ v6.toInt from by omega), (show 4 = 0 ∨ v7.toInt < x_209.toInt from by omega)⟩, by rw [ht]; exact hP9, va_K.moved hW.alike hK, hD9⟩, hS.F ht⟩) hS.2.2 dX12_next_307
                · skip
                  have zh_208 : x_207.toInt = 59 := z_eq h_208
                  refine lv_iconst (v := 3) hx hb dX12_next_289 (by decide) ?_
                  refine lv_goto (tgt := 294) hx hb dX12_next_290 (by decide) ?_
                  refine va_put (D := D) (ci := 12) (v := .int 3) (ty := tyX12 8) (C := RX12) (T := TX12) (N := 42) hx hb hts iT_X12 tyX12 tyX12_ok nmX12 hown hK hP hD hS 0 rfl rfl 8 (by decide) (hts _ tw_6_61) (fun _ h9 => h9) rfl (tyX12_ok 8 (by decide)) rfl rfl (Nat.le_of_ble_eq_true rfl) dX12_next_294 (fun H locs hP hD hS => ?_)
                  have hP : va_P D vwCl [(mo, .inr (12, [.int v0, .ref m1, .ref m2, .ref m3, .ref m4, .ref m5, .int v6, .int L0f0x7, .int 3, .int L0f0x7, .int 0, .long 0, .int v12, .int v13, .int v14, .int v15, .ref m16, .ref m17, .ref m18, .ref m19, .ref m20, .ref m21, .ref m22, .ref m23, .int v24, .ref m25, .ref m26, .ref m27, .ref m28, .ref m29, .int v30, .ref m31, .ref m32, .ref m33, .int v34, .int v35, .int v36, .ref m37, .ref m38, .ref m39, .ref m40, .long v41])), (m5, .inl (k 1, 1000, .inl f5))] H := hP
                  have hD : va_D A [(mo, .inr (12, [.int v0, .ref m1, .ref m2, .ref m3, .ref m4, .ref m5, .int v6, .int L0f0x7, .int 3, .int L0f0x7, .int 0, .long 0, .int v12, .int v13, .int v14, .int v15, .ref m16, .ref m17, .ref m18, .ref m19, .ref m20, .ref m21, .ref m22, .ref m23, .int v24, .ref m25, .ref m26, .ref m27, .ref m28, .ref m29, .int v30, .ref m31, .ref m32, .ref m33, .int v34, .int v35, .int v36, .ref m37, .ref m38, .ref m39, .ref m40, .long v41])), (m5, .inl (k 1, 1000, .inl f5))] := hD
                  refine lv_aload_n hx hb dX12_next_297 rfl (lv_at hl 0 rfl) ?_
                  refine lv_dup hx hb dX12_next_298 rfl ?_
                  refine va_get (D := D) (ci := 12) (v := .int L0f0x7) (C := RX12) (T := TX12) (N := 42) hx hb hts iT_X12 hown hK hP 0 rfl rfl 7 (by decide) (hts _ tw_6_60) (fun _ h9 => h9) rfl dX12_next_299 ?_
                  refine lv_iconst (v := 1) hx hb dX12_next_302 (by decide) ?_
                  refine lv_iadd hx hb dX12_next_303 ?_
                  refine lv_topi (fun x_210 ex_210 => ?_)
                  have zx_210 : x_210.toInt = L0f0x7.toInt + 1 := by rw [ex_210]; exact z_add rfl rfl (by omega) (by omega)
                  refine va_put (D := D) (ci := 12) (v := .int x_210) (ty := tyX12 7) (C := RX12) (T := TX12) (N := 42) hx hb hts iT_X12 tyX12 tyX12_ok nmX12 hown hK hP hD hS 0 rfl rfl 7 (by decide) (hts _ tw_6_60) (fun _ h9 => h9) rfl (tyX12_ok 7 (by decide)) rfl rfl (Nat.le_of_ble_eq_true rfl) dX12_next_304 (fun H locs hP hD hS => ?_)
                  have hP : va_P D vwCl [(mo, .inr (12, [.int v0, .ref m1, .ref m2, .ref m3, .ref m4, .ref m5, .int v6, .int x_210, .int 3, .int L0f0x7, .int 0, .long 0, .int v12, .int v13, .int v14, .int v15, .ref m16, .ref m17, .ref m18, .ref m19, .ref m20, .ref m21, .ref m22, .ref m23, .int v24, .ref m25, .ref m26, .ref m27, .ref m28, .ref m29, .int v30, .ref m31, .ref m32, .ref m33, .int v34, .int v35, .int v36, .ref m37, .ref m38, .ref m39, .ref m40, .long v41])), (m5, .inl (k 1, 1000, .inl f5))] H := hP
                  have hD : va_D A [(mo, .inr (12, [.int v0, .ref m1, .ref m2, .ref m3, .ref m4, .ref m5, .int v6, .int x_210, .int 3, .int L0f0x7, .int 0, .long 0, .int v12, .int v13, .int v14, .int v15, .ref m16, .ref m17, .ref m18, .ref m19, .ref m20, .ref m21, .ref m22, .ref m23, .int v24, .ref m25, .ref m26, .ref m27, .ref m28, .ref m29, .int v30, .ref m31, .ref m32, .ref m33, .int v34, .int v35, .int v36, .ref m37, .ref m38, .ref m39, .ref m40, .long v41])), (m5, .inl (k 1, 1000, .inl f5))] := hD
                  obtain ⟨hP9, hD9⟩ := sub2 hP hD (ws' := [(mo, .inr (12, [.int v0, .ref m1, .ref m2, .ref m3, .ref m4, .ref m5, .int v6, .int x_210, .int 3, .int L0f0x7, .int 0, .long 0, .int v12, .int v13, .int v14, .int v15, .ref m16, .ref m17, .ref m18, .ref m19, .ref m20, .ref m21, .ref m22, .ref m23, .int v24, .ref m25, .ref m26, .ref m27, .ref m28, .ref m29, .int v30, .ref m31, .ref m32, .ref m33, .int v34, .int v35, .int v36, .ref m37, .ref m38, .ref m39, .ref m40, .long v41])), (m5, .inl (k 1, 1000, .inl f5))]) [0, 1] (by decide +kernel) rfl
                  exact W.vret hx hb hr (fun tZ ht hW => ⟨⟨(x_210, 3, L0f0x7, 0, 0), rfl, ⟨(show 0 ≤ x_210.toInt ∧ x_210.toInt ≤ 1000 from by omega), (show 0 ≤ 3 ∧ 3 ≤ 4 from by omega), (show 0 ≤ L0f0x7.toInt ∧ L0f0x7.toInt ≤ 1000 from by omega), (show v7.toInt ≤ x_210.toInt ∧ x_210.toInt ≤ v6.toInt from by omega), (show 3 = 0 ∨ v7.toInt < x_210.toInt from by omega)⟩, by rw [ht]; exact hP9, va_K.moved hW.alike hK, hD9⟩, hS.F ht⟩) hS.2.2 dX12_next_307
              · skip
                have zh_206 : ¬ r_201.toInt = 0 := z_ne h_206
                refine lv_aload_n hx hb dX12_next_203 rfl (lv_at hl 0 rfl) ?_
                refine lv_iconst (v := 2) hx hb dX12_next_204 (by decide) ?_
                refine va_put (D := D) (ci := 12) (v := .int 2) (ty := tyX12 8) (C := RX12) (T := TX12) (N := 42) hx hb hts iT_X12 tyX12 tyX12_ok nmX12 hown hK hP hD hS 0 rfl rfl 8 (by decide) (hts _ tw_6_61) (fun _ h9 => h9) rfl (tyX12_ok 8 (by decide)) rfl rfl (Nat.le_of_ble_eq_true rfl) dX12_next_205 (fun H locs hP hD hS => ?_)
                have hP : va_P D vwCl [(mo, .inr (12, [.int v0, .ref m1, .ref m2, .ref m3, .ref m4, .ref m5, .int v6, .int L0f0x7, .int 2, .int L0f0x7, .int 0, .long 0, .int v12, .int v13, .int v14, .int v15, .ref m16, .ref m17, .ref m18, .ref m19, .ref m20, .ref m21, .ref m22, .ref m23, .int v24, .ref m25, .ref m26, .ref m27, .ref m28, .ref m29, .int v30, .ref m31, .ref m32, .ref m33, .int v34, .int v35, .int v36, .ref m37, .ref m38, .ref m39, .ref m40, .long v41])), (m5, .inl (k 1, 1000, .inl f5))] H := hP
                have hD : va_D A [(mo, .inr (12, [.int v0, .ref m1, .ref m2, .ref m3, .ref m4, .ref m5, .int v6, .int L0f0x7, .int 2, .int L0f0x7, .int 0, .long 0, .int v12, .int v13, .int v14, .int v15, .ref m16, .ref m17, .ref m18, .ref m19, .ref m20, .ref m21, .ref m22, .ref m23, .int v24, .ref m25, .ref m26, .ref m27, .ref m28, .ref m29, .int v30, .ref m31, .ref m32, .ref m33, .int v34, .int v35, .int v36, .ref m37, .ref m38, .ref m39, .ref m40, .long v41])), (m5, .inl (k 1, 1000, .inl f5))] := hD
                refine lv_aload_n hx hb dX12_next_208 rfl (lv_at hl 0 rfl) ?_
                refine lv_aload_n hx hb dX12_next_209 rfl (lv_at hl 0 rfl) ?_
                refine va_get (D := D) (ci := 12) (v := .int L0f0x7) (C := RX12) (T := TX12) (N := 42) hx hb hts iT_X12 hown hK hP 0 rfl rfl 7 (by decide) (hts _ tw_6_60) (fun _ h9 => h9) rfl dX12_next_210 ?_
                refine lv_bipush (v := 48) hx hb dX12_next_213 (by decide) ?_
                refine lv_bipush (v := 57) hx hb dX12_next_215 (by decide) ?_
                obtain ⟨hPc, hDc, hFc⟩ := sub3 hP hD hS hA (ws' := [(mo, .inr (12, [.int v0, .ref m1, .ref m2, .ref m3, .ref m4, .ref m5, .int v6, .int L0f0x7, .int 2, .int L0f0x7, .int 0, .long 0, .int v12, .int v13, .int v14, .int v15, .ref m16, .ref m17, .ref m18, .ref m19, .ref m20, .ref m21, .ref m22, .ref m23, .int v24, .ref m25, .ref m26, .ref m27, .ref m28, .ref m29, .int v30, .ref m31, .ref m32, .ref m33, .int v34, .int v35, .int v36, .ref m37, .ref m38, .ref m39, .ref m40, .long v41])), (m5, .inl (k 1, 1000, .inl f5))]) [0, 1] (by decide +kernel) rfl
                refine va_calli (va_runV (C := RX12) (As := [.int L0f0x7, .int 48, .int 57]) (rest := []) ⟨hx, hb, hml, hown, hts⟩ (c_X12_isByte l D k mo L0f0x7 48 57 v0 m1 m2 m3 m4 m5 v6 L0f0x7 2 L0f0x7 0 0 v12 v13 v14 v15 m16 m17 m18 m19 m20 m21 m22 m23 v24 m25 m26 m27 m28 m29 v30 m31 m32 m33 v34 v35 v36 m37 m38 m39 m40 v41 f5 H.size (show 0 ≤ L0f0x7.toInt ∧ L0f0x7.toInt ≤ 1000 from by omega) (show 0 ≤ v6.toInt ∧ v6.toInt ≤ 1000 from by omega) (show 0 ≤ v24.toInt ∧ v24.toInt ≤ 1023 from by omega)) (cwV 3 hts (gV tw_6_238 tw_7_0 tw_p_40 tw_1_13 tw_7_1) rfl rfl rfl hdV_X12_isByte ⟨Nat.le_of_ble_eq_true rfl, Nat.le_of_ble_eq_true rfl⟩) (cz_V hK hPc hDc hN (ci := 12) (q0 := 0) rfl rfl [.int L0f0x7, .int 48, .int 57]) rfl rfl hl.1 rfl (lv_room (Nat.le_of_ble_eq_true rfl)) dX12_next_217 ⟨Nat.le_of_ble_eq_true rfl, Nat.le_of_ble_eq_true rfl⟩) hS (fun q _ h => hFc q h) hFc (fun r_211 uZ tZ H1 locs ht hvm hw hB hz1 hk1 hS => ?_)
                obtain ⟨hP1, hK1, hD1⟩ := hB
                rw [ht] at hP1
                obtain ⟨hP, hD⟩ := va_join (wr := []) (w1 := [(mo, .inr (12, [.int v0, .ref m1, .ref m2, .ref m3, .ref m4, .ref m5, .int v6, .int L0f0x7, .int 2, .int L0f0x7, .int 0, .long 0, .int v12, .int v13, .int v14, .int v15, .ref m16, .ref m17, .ref m18, .ref m19, .ref m20, .ref m21, .ref m22, .ref m23, .int v24, .ref m25, .ref m26, .ref m27, .ref m28, .ref m29, .int v30, .ref m31, .ref m32, .ref m33, .int v34, .int v35, .int v36, .ref m37, .ref m38, .ref m39, .ref m40, .long v41])), (m5, .inl (k 1, 1000, .inl f5))]) hP hD [0, 1] [] rfl rfl (by decide +kernel) (by decide +kernel) hk1 hFc hP1 hD1
                clear hK1 hP1 hD1 hPc hDc hFc
                clear hk1 hz1 ht hvm
                have hP : va_P D vwCl [(mo, .inr (12, [.int v0, .ref m1, .ref m2, .ref m3, .ref m4, .ref m5, .int v6, .int L0f0x7, .int 2, .int L0f0x7, .int 0, .long 0, .int v12, .int v13, .int v14, .int v15, .ref m16, .ref m17, .ref m18, .ref m19, .ref m20, .ref m21, .ref m22, .ref m23, .int v24, .ref m25, .ref m26, .ref m27, .ref m28, .ref m29, .int v30, .ref m31, .ref m32, .ref m33, .int v34, .int v35, .int v36, .ref m37, .ref m38, .ref m39, .ref m40, .long v41])), (m5, .inl (k 1, 1000, .inl f5))] H1 := hP
                have hD : va_D A [(mo, .inr (12, [.int v0, .ref m1, .ref m2, .ref m3, .ref m4, .ref m5, .int v6, .int L0f0x7, .int 2, .int L0f0x7, .int 0, .long 0, .int v12, .int v13, .int v14, .int v15, .ref m16, .ref m17, .ref m18, .ref m19, .ref m20, .ref m21, .ref m22, .ref m23, .int v24, .ref m25, .ref m26, .ref m27, .ref m28, .ref m29, .int v30, .ref m31, .ref m32, .ref m33, .int v34, .int v35, .int v36, .ref m37, .ref m38, .ref m39, .ref m40, .long v41])), (m5, .inl (k 1, 1000, .inl f5))] := hD
                generalize H1 = H at hP hS ⊢
                have hw_212 : (0 ≤ r_211.toInt ∧ r_211.toInt ≤ 1) ∧ (r_211 = isByteOf f5 v6 L0f0x7 48 57) ∧ ((r_211.toInt = 1 ∧ L0f0x7.toInt < v6.toInt) ∨ r_211.toInt = 0) := hw
                obtain ⟨hw_213, hw_214, hw_215⟩ := hw_212
                clear hw
                obtain rfl : r_201 = r_211 := hw_204.trans hw_214.symm
                refine lv_if_eq (tgt := 307) hx hb dX12_next_220 (by decide) (fun h_216 => ?_) (fun h_216 => ?_)
                · skip
                  have zh_216 : r_201.toInt = 0 := z_eq h_216
                  exact False.elim (by omega)
                · skip
                  have zh_216 : ¬ r_201.toInt = 0 := z_ne h_216
                  refine lv_aload_n hx hb dX12_next_223 rfl (lv_at hl 0 rfl) ?_
                  refine lv_aload_n hx hb dX12_next_224 rfl (lv_at hl 0 rfl) ?_
                  refine va_get (D := D) (ci := 12) (v := .int 0) (C := RX12) (T := TX12) (N := 42) hx hb hts iT_X12 hown hK hP 0 rfl rfl 10 (by decide) (hts _ tw_6_63) (fun _ h9 => h9) rfl dX12_next_225 ?_
                  refine lv_ldc (v := 100000) hx hb hown (hts _ tw_7_5) dX12_next_228 ?_
                  refine lv_icmp_le (tgt := 238) hx hb dX12_next_230 (by decide) (fun _ => ?_) (fun c9 => absurd c9 (by decide))
                  refine lv_bipush (v := 10) hx hb dX12_next_238 (by decide) ?_
                  refine lv_aload_n hx hb dX12_next_240 rfl (lv_at hl 0 rfl) ?_
                  refine va_get (D := D) (ci := 12) (v := .int 0) (C := RX12) (T := TX12) (N := 42) hx hb hts iT_X12 hown hK hP 0 rfl rfl 10 (by decide) (hts _ tw_6_63) (fun _ h9 => h9) rfl dX12_next_241 ?_
                  refine lv_imul hx hb dX12_next_244 ?_
                  refine lv_topi (fun x_217 ex_217 => ?_)
                  obtain rfl : x_217 = 0 := ex_217.trans (by decide)
                  refine lv_aload_n hx hb dX12_next_245 rfl (lv_at hl 0 rfl) ?_
                  refine va_get (D := D) (ci := 12) (v := .ref m5) (C := RX12) (T := TX12) (N := 42) hx hb hts iT_X12 hown hK hP 0 rfl rfl 5 (by decide) (hts _ tw_6_58) (fun _ h9 => h9) rfl dX12_next_246 ?_
                  refine lv_aload_n hx hb dX12_next_249 rfl (lv_at hl 0 rfl) ?_
                  refine va_get (D := D) (ci := 12) (v := .int L0f0x7) (C := RX12) (T := TX12) (N := 42) hx hb hts iT_X12 hown hK hP 0 rfl rfl 7 (by decide) (hts _ tw_6_60) (fun _ h9 => h9) rfl dX12_next_250 ?_
                  refine va_bald hx hb hK hP 1 1 rfl rfl (z_in (by omega) (by omega)) dX12_next_253 ?_
                  refine lv_topi (fun x_218 ex_218 => ?_)
                  refine lv_iadd hx hb dX12_next_254 ?_
                  refine lv_topi (fun x_219 ex_219 => ?_)
                  have zrx_218 := z_rng x_218
                  have zx_219 : x_219.toInt = 0 + x_218.toInt := by rw [ex_219]; exact z_add rfl rfl (by omega) (by omega)
                  refine lv_bipush (v := 48) hx hb dX12_next_255 (by decide) ?_
                  refine lv_isub hx hb dX12_next_257 ?_
                  refine lv_topi (fun x_220 ex_220 => ?_)
                  have zrx_219 := z_rng x_219
                  refine va_put (D := D) (ci := 12) (v := .int x_220) (ty := tyX12 10) (C := RX12) (T := TX12) (N := 42) hx hb hts iT_X12 tyX12 tyX12_ok nmX12 hown hK hP hD hS 0 rfl rfl 10 (by decide) (hts _ tw_6_63) (fun _ h9 => h9) rfl (tyX12_ok 10 (by decide)) rfl rfl (Nat.le_of_ble_eq_true rfl) dX12_next_258 (fun H locs hP hD hS => ?_)
                  have hP : va_P D vwCl [(mo, .inr (12, [.int v0, .ref m1, .ref m2, .ref m3, .ref m4, .ref m5, .int v6, .int L0f0x7, .int 2, .int L0f0x7, .int x_220, .long 0, .int v12, .int v13, .int v14, .int v15, .ref m16, .ref m17, .ref m18, .ref m19, .ref m20, .ref m21, .ref m22, .ref m23, .int v24, .ref m25, .ref m26, .ref m27, .ref m28, .ref m29, .int v30, .ref m31, .ref m32, .ref m33, .int v34, .int v35, .int v36, .ref m37, .ref m38, .ref m39, .ref m40, .long v41])), (m5, .inl (k 1, 1000, .inl f5))] H := hP
                  have hD : va_D A [(mo, .inr (12, [.int v0, .ref m1, .ref m2, .ref m3, .ref m4, .ref m5, .int v6, .int L0f0x7, .int 2, .int L0f0x7, .int x_220, .long 0, .int v12, .int v13, .int v14, .int v15, .ref m16, .ref m17, .ref m18, .ref m19, .ref m20, .ref m21, .ref m22, .ref m23, .int v24, .ref m25, .ref m26, .ref m27, .ref m28, .ref m29, .int v30, .ref m31, .ref m32, .ref m33, .int v34, .int v35, .int v36, .ref m37, .ref m38, .ref m39, .ref m40, .long v41])), (m5, .inl (k 1, 1000, .inl f5))] := hD
                  refine lv_aload_n hx hb dX12_next_261 rfl (lv_at hl 0 rfl) ?_
                  refine lv_dup hx hb dX12_next_262 rfl ?_
                  refine va_get (D := D) (ci := 12) (v := .int L0f0x7) (C := RX12) (T := TX12) (N := 42) hx hb hts iT_X12 hown hK hP 0 rfl rfl 7 (by decide) (hts _ tw_6_60) (fun _ h9 => h9) rfl dX12_next_263 ?_
                  refine lv_iconst (v := 1) hx hb dX12_next_266 (by decide) ?_
                  refine lv_iadd hx hb dX12_next_267 ?_
                  refine lv_topi (fun x_221 ex_221 => ?_)
                  have zx_221 : x_221.toInt = L0f0x7.toInt + 1 := by rw [ex_221]; exact z_add rfl rfl (by omega) (by omega)
                  refine va_put (D := D) (ci := 12) (v := .int x_221) (ty := tyX12 7) (C := RX12) (T := TX12) (N := 42) hx hb hts iT_X12 tyX12 tyX12_ok nmX12 hown hK hP hD hS 0 rfl rfl 7 (by decide) (hts _ tw_6_60) (fun _ h9 => h9) rfl (tyX12_ok 7 (by decide)) rfl rfl (Nat.le_of_ble_eq_true rfl) dX12_next_268 (fun H locs hP hD hS => ?_)
                  have hP : va_P D vwCl [(mo, .inr (12, [.int v0, .ref m1, .ref m2, .ref m3, .ref m4, .ref m5, .int v6, .int x_221, .int 2, .int L0f0x7, .int x_220, .long 0, .int v12, .int v13, .int v14, .int v15, .ref m16, .ref m17, .ref m18, .ref m19, .ref m20, .ref m21, .ref m22, .ref m23, .int v24, .ref m25, .ref m26, .ref m27, .ref m28, .ref m29, .int v30, .ref m31, .ref m32, .ref m33, .int v34, .int v35, .int v36, .ref m37, .ref m38, .ref m39, .ref m40, .long v41])), (m5, .inl (k 1, 1000, .inl f5))] H := hP
                  have hD : va_D A [(mo, .inr (12, [.int v0, .ref m1, .ref m2, .ref m3, .ref m4, .ref m5, .int v6, .int x_221, .int 2, .int L0f0x7, .int x_220, .long 0, .int v12, .int v13, .int v14, .int v15, .ref m16, .ref m17, .ref m18, .ref m19, .ref m20, .ref m21, .ref m22, .ref m23, .int v24, .ref m25, .ref m26, .ref m27, .ref m28, .ref m29, .int v30, .ref m31, .ref m32, .ref m33, .int v34, .int v35, .int v36, .ref m37, .ref m38, .ref m39, .ref m40, .long v41])), (m5, .inl (k 1, 1000, .inl f5))] := hD
                  refine lv_goto (tgt := 208) hx hb dX12_next_271 (by decide) ?_
                  refine loop_r (Wg := fun H locs ls => W p l e _ s m _ below meth c H locs _ _ _ (F0 m 208 ls [])) (fun n9 H locs ls => ∃ (L208f0x7 : Int32) (L208f0x10 : Int32), n9 = (1000 - L208f0x7.toInt).toNat ∧ (2 ≤ L208f0x7.toInt ∧ L208f0x7.toInt ≤ 1000) ∧ (L208f0x7.toInt ≤ v6.toInt) ∧ (v7.toInt < L208f0x7.toInt) ∧ va_P D vwCl [(mo, .inr (12, [.int v0, .ref m1, .ref m2, .ref m3, .ref m4, .ref m5, .int v6, .int L208f0x7, .int 2, .int L0f0x7, .int L208f0x10, .long 0, .int v12, .int v13, .int v14, .int v15, .ref m16, .ref m17, .ref m18, .ref m19, .ref m20, .ref m21, .ref m22, .ref m23, .int v24, .ref m25, .ref m26, .ref m27, .ref m28, .ref m29, .int v30, .ref m31, .ref m32, .ref m33, .int v34, .int v35, .int v36, .ref m37, .ref m38, .ref m39, .ref m40, .long v41])), (m5, .inl (k 1, 1000, .inl f5))] H ∧ va_D A [(mo, .inr (12, [.int v0, .ref m1, .ref m2, .ref m3, .ref m4, .ref m5, .int v6, .int L208f0x7, .int 2, .int L0f0x7, .int L208f0x10, .long 0, .int v12, .int v13, .int v14, .int v15, .ref m16, .ref m17, .ref m18, .ref m19, .ref m20, .ref m21, .ref m22, .ref m23, .int v24, .ref m25, .ref m26, .ref m27, .ref m28, .ref m29, .int v30, .ref m31, .ref m32, .ref m33, .int v34, .int v35, .int v36, .ref m37, .ref m38, .ref m39, .ref m40, .long v41])), (m5, .inl (k 1, 1000, .inl f5))] ∧ va_S A s.heap H locs ∧ lv_has ls 2 [(0, .ref mo)]) (fun n9 H locs ls hI ih_222 => ?_) _ _ _ _ ⟨x_221, x_220, rfl, (show 2 ≤ x_221.toInt ∧ x_221.toInt ≤ 1000 from by omega), (show x_221.toInt ≤ v6.toInt from by omega), (show v7.toInt < x_221.toInt from by omega), hP.sub (ws' := [(mo, .inr (12, [.int v0, .ref m1, .ref m2, .ref m3, .ref m4, .ref m5, .int v6, .int x_221, .int 2, .int L0f0x7, .int x_220, .long 0, .int v12, .int v13, .int v14, .int v15, .ref m16, .ref m17, .ref m18, .ref m19, .ref m20, .ref m21, .ref m22, .ref m23, .int v24, .ref m25, .ref m26, .ref m27, .ref m28, .ref m29, .int v30, .ref m31, .ref m32, .ref m33, .int v34, .int v35, .int v36, .ref m37, .ref m38, .ref m39, .ref m40, .long v41])), (m5, .inl (k 1, 1000, .inl f5))]) [0, 1] rfl, hD.sub (ws' := [(mo, .inr (12, [.int v0, .ref m1, .ref m2, .ref m3, .ref m4, .ref m5, .int v6, .int x_221, .int 2, .int L0f0x7, .int x_220, .long 0, .int v12, .int v13, .int v14, .int v15, .ref m16, .ref m17, .ref m18, .ref m19, .ref m20, .ref m21, .ref m22, .ref m23, .int v24, .ref m25, .ref m26, .ref m27, .ref m28, .ref m29, .int v30, .ref m31, .ref m32, .ref m33, .int v34, .int v35, .int v36, .ref m37, .ref m38, .ref m39, .ref m40, .long v41])), (m5, .inl (k 1, 1000, .inl f5))]) [0, 1] (by decide +kernel) rfl, hS, lv_sub hl [0] rfl⟩
                  clear hP hD hS hl
                  obtain ⟨L208f0x7, L208f0x10, en_223, zL208f0x7, hi208x0, hi208x1, hP, hD, hS, hl⟩ := hI
                  refine lv_aload_n hx hb dX12_next_208 rfl (lv_at hl 0 rfl) ?_
                  refine lv_aload_n hx hb dX12_next_209 rfl (lv_at hl 0 rfl) ?_
                  refine va_get (D := D) (ci := 12) (v := .int L208f0x7) (C := RX12) (T := TX12) (N := 42) hx hb hts iT_X12 hown hK hP 0 rfl rfl 7 (by decide) (hts _ tw_6_60) (fun _ h9 => h9) rfl dX12_next_210 ?_
                  refine lv_bipush (v := 48) hx hb dX12_next_213 (by decide) ?_
                  refine lv_bipush (v := 57) hx hb dX12_next_215 (by decide) ?_
                  obtain ⟨hPc, hDc, hFc⟩ := sub3 hP hD hS hA (ws' := [(mo, .inr (12, [.int v0, .ref m1, .ref m2, .ref m3, .ref m4, .ref m5, .int v6, .int L208f0x7, .int 2, .int L0f0x7, .int L208f0x10, .long 0, .int v12, .int v13, .int v14, .int v15, .ref m16, .ref m17, .ref m18, .ref m19, .ref m20, .ref m21, .ref m22, .ref m23, .int v24, .ref m25, .ref m26, .ref m27, .ref m28, .ref m29, .int v30, .ref m31, .ref m32, .ref m33, .int v34, .int v35, .int v36, .ref m37, .ref m38, .ref m39, .ref m40, .long v41])), (m5, .inl (k 1, 1000, .inl f5))]) [0, 1] (by decide +kernel) rfl
                  refine va_calli (va_runV (C := RX12) (As := [.int L208f0x7, .int 48, .int 57]) (rest := []) ⟨hx, hb, hml, hown, hts⟩ (c_X12_isByte l D k mo L208f0x7 48 57 v0 m1 m2 m3 m4 m5 v6 L208f0x7 2 L0f0x7 L208f0x10 0 v12 v13 v14 v15 m16 m17 m18 m19 m20 m21 m22 m23 v24 m25 m26 m27 m28 m29 v30 m31 m32 m33 v34 v35 v36 m37 m38 m39 m40 v41 f5 H.size (show 0 ≤ L208f0x7.toInt ∧ L208f0x7.toInt ≤ 1000 from by omega) (show 0 ≤ v6.toInt ∧ v6.toInt ≤ 1000 from by omega) (show 0 ≤ v24.toInt ∧ v24.toInt ≤ 1023 from by omega)) (cwV 3 hts (gV tw_6_238 tw_7_0 tw_p_40 tw_1_13 tw_7_1) rfl rfl rfl hdV_X12_isByte ⟨Nat.le_of_ble_eq_true rfl, Nat.le_of_ble_eq_true rfl⟩) (cz_V hK hPc hDc hN (ci := 12) (q0 := 0) rfl rfl [.int L208f0x7, .int 48, .int 57]) rfl rfl hl.1 rfl (lv_room (Nat.le_of_ble_eq_true rfl)) dX12_next_217 ⟨Nat.le_of_ble_eq_true rfl, Nat.le_of_ble_eq_true rfl⟩) hS (fun q _ h => hFc q h) hFc (fun r_224 uZ tZ H1 locs ht hvm hw hB hz1 hk1 hS => ?_)
                  obtain ⟨hP1, hK1, hD1⟩ := hB
                  rw [ht] at hP1
                  obtain ⟨hP, hD⟩ := va_join (wr := []) (w1 := [(mo, .inr (12, [.int v0, .ref m1, .ref m2, .ref m3, .ref m4, .ref m5, .int v6, .int L208f0x7, .int 2, .int L0f0x7, .int L208f0x10, .long 0, .int v12, .int v13, .int v14, .int v15, .ref m16, .ref m17, .ref m18, .ref m19, .ref m20, .ref m21, .ref m22, .ref m23, .int v24, .ref m25, .ref m26, .ref m27, .ref m28, .ref m29, .int v30, .ref m31, .ref m32, .ref m33, .int v34, .int v35, .int v36, .ref m37, .ref m38, .ref m39, .ref m40, .long v41])), (m5, .inl (k 1, 1000, .inl f5))]) hP hD [0, 1] [] rfl rfl (by decide +kernel) (by decide +kernel) hk1 hFc hP1 hD1
                  clear hK1 hP1 hD1 hPc hDc hFc
                  clear hk1 hz1 ht hvm
                  have hP : va_P D vwCl [(mo, .inr (12, [.int v0, .ref m1, .ref m2, .ref m3, .ref m4, .ref m5, .int v6, .int L208f0x7, .int 2, .int L0f0x7, .int L208f0x10, .long 0, .int v12, .int v13, .int v14, .int v15, .ref m16, .ref m17, .ref m18, .ref m19, .ref m20, .ref m21, .ref m22, .ref m23, .int v24, .ref m25, .ref m26, .ref m27, .ref m28, .ref m29, .int v30, .ref m31, .ref m32, .ref m33, .int v34, .int v35, .int v36, .ref m37, .ref m38, .ref m39, .ref m40, .long v41])), (m5, .inl (k 1, 1000, .inl f5))] H1 := hP
                  have hD : va_D A [(mo, .inr (12, [.int v0, .ref m1, .ref m2, .ref m3, .ref m4, .ref m5, .int v6, .int L208f0x7, .int 2, .int L0f0x7, .int L208f0x10, .long 0, .int v12, .int v13, .int v14, .int v15, .ref m16, .ref m17, .ref m18, .ref m19, .ref m20, .ref m21, .ref m22, .ref m23, .int v24, .ref m25, .ref m26, .ref m27, .ref m28, .ref m29, .int v30, .ref m31, .ref m32, .ref m33, .int v34, .int v35, .int v36, .ref m37, .ref m38, .ref m39, .ref m40, .long v41])), (m5, .inl (k 1, 1000, .inl f5))] := hD
                  generalize H1 = H at hP hS ⊢
                  have hw_225 : (0 ≤ r_224.toInt ∧ r_224.toInt ≤ 1) ∧ (r_224 = isByteOf f5 v6 L208f0x7 48 57) ∧ ((r_224.toInt = 1 ∧ L208f0x7.toInt < v6.toInt) ∨ r_224.toInt = 0) := hw
                  obtain ⟨hw_226, hw_227, hw_228⟩ := hw_225
                  clear hw
                  refine lv_if_eq (tgt := 307) hx hb dX12_next_220 (by decide) (fun h_229 => ?_) (fun h_229 => ?_)
                  · skip
                    have zh_229 : r_224.toInt = 0 := z_eq h_229
                    obtain ⟨hP9, hD9⟩ := sub2 hP hD (ws' := [(mo, .inr (12, [.int v0, .ref m1, .ref m2, .ref m3, .ref m4, .ref m5, .int v6, .int L208f0x7, .int 2, .int L0f0x7, .int L208f0x10, .long 0, .int v12, .int v13, .int v14, .int v15, .ref m16, .ref m17, .ref m18, .ref m19, .ref m20, .ref m21, .ref m22, .ref m23, .int v24, .ref m25, .ref m26, .ref m27, .ref m28, .ref m29, .int v30, .ref m31, .ref m32, .ref m33, .int v34, .int v35, .int v36, .ref m37, .ref m38, .ref m39, .ref m40, .long v41])), (m5, .inl (k 1, 1000, .inl f5))]) [0, 1] (by decide +kernel) rfl
                    exact W.vret hx hb hr (fun tZ ht hW => ⟨⟨(L208f0x7, 2, L0f0x7, L208f0x10, 0), rfl, ⟨(show 0 ≤ L208f0x7.toInt ∧ L208f0x7.toInt ≤ 1000 from by omega), (show 0 ≤ 2 ∧ 2 ≤ 4 from by omega), (show 0 ≤ L0f0x7.toInt ∧ L0f0x7.toInt ≤ 1000 from by omega), (show v7.toInt ≤ L208f0x7.toInt ∧ L208f0x7.toInt ≤ v6.toInt from by omega), (show 2 = 0 ∨ v7.toInt < L208f0x7.toInt from by omega)⟩, by rw [ht]; exact hP9, va_K.moved hW.alike hK, hD9⟩, hS.F ht⟩) hS.2.2 dX12_next_307
                  · skip
                    have zh_229 : ¬ r_224.toInt = 0 := z_ne h_229
                    refine lv_aload_n hx hb dX12_next_223 rfl (lv_at hl 0 rfl) ?_
                    refine lv_aload_n hx hb dX12_next_224 rfl (lv_at hl 0 rfl) ?_
                    refine va_get (D := D) (ci := 12) (v := .int L208f0x10) (C := RX12) (T := TX12) (N := 42) hx hb hts iT_X12 hown hK hP 0 rfl rfl 10 (by decide) (hts _ tw_6_63) (fun _ h9 => h9) rfl dX12_next_225 ?_
                    refine lv_ldc (v := 100000) hx hb hown (hts _ tw_7_5) dX12_next_228 ?_
                    refine lv_icmp_le (tgt := 238) hx hb dX12_next_230 (by decide) (fun h_230 => ?_) (fun h_230 => ?_)
                    · skip
                      have zh_230 : L208f0x10.toInt ≤ 100000 := z_le h_230
                      refine lv_bipush (v := 10) hx hb dX12_next_238 (by decide) ?_
                      refine lv_aload_n hx hb dX12_next_240 rfl (lv_at hl 0 rfl) ?_
                      refine va_get (D := D) (ci := 12) (v := .int L208f0x10) (C := RX12) (T := TX12) (N := 42) hx hb hts iT_X12 hown hK hP 0 rfl rfl 10 (by decide) (hts _ tw_6_63) (fun _ h9 => h9) rfl dX12_next_241 ?_
                      refine lv_imul hx hb dX12_next_244 ?_
                      refine lv_topi (fun x_231 ex_231 => ?_)
                      have zrL208f0x10 := z_rng L208f0x10
                      refine lv_aload_n hx hb dX12_next_245 rfl (lv_at hl 0 rfl) ?_
                      refine va_get (D := D) (ci := 12) (v := .ref m5) (C := RX12) (T := TX12) (N := 42) hx hb hts iT_X12 hown hK hP 0 rfl rfl 5 (by decide) (hts _ tw_6_58) (fun _ h9 => h9) rfl dX12_next_246 ?_
                      refine lv_aload_n hx hb dX12_next_249 rfl (lv_at hl 0 rfl) ?_
                      refine va_get (D := D) (ci := 12) (v := .int L208f0x7) (C := RX12) (T := TX12) (N := 42) hx hb hts iT_X12 hown hK hP 0 rfl rfl 7 (by decide) (hts _ tw_6_60) (fun _ h9 => h9) rfl dX12_next_250 ?_
                      refine va_bald hx hb hK hP 1 1 rfl rfl (z_in (by omega) (by omega)) dX12_next_253 ?_
                      refine lv_topi (fun x_232 ex_232 => ?_)
                      refine lv_iadd hx hb dX12_next_254 ?_
                      refine lv_topi (fun x_233 ex_233 => ?_)
                      have zrx_231 := z_rng x_231
                      have zrx_232 := z_rng x_232
                      refine lv_bipush (v := 48) hx hb dX12_next_255 (by decide) ?_
                      refine lv_isub hx hb dX12_next_257 ?_
                      refine lv_topi (fun x_234 ex_234 => ?_)
                      have zrx_233 := z_rng x_233
                      refine va_put (D := D) (ci := 12) (v := .int x_234) (ty := tyX12 10) (C := RX12) (T := TX12) (N := 42) hx hb hts iT_X12 tyX12 tyX12_ok nmX12 hown hK hP hD hS 0 rfl rfl 10 (by decide) (hts _ tw_6_63) (fun _ h9 => h9) rfl (tyX12_ok 10 (by decide)) rfl rfl (Nat.le_of_ble_eq_true rfl) dX12_next_258 (fun H locs hP hD hS => ?_)
                      have hP : va_P D vwCl [(mo, .inr (12, [.int v0, .ref m1, .ref m2, .ref m3, .ref m4, .ref m5, .int v6, .int L208f0x7, .int 2, .int L0f0x7, .int x_234, .long 0, .int v12, .int v13, .int v14, .int v15, .ref m16, .ref m17, .ref m18, .ref m19, .ref m20, .ref m21, .ref m22, .ref m23, .int v24, .ref m25, .ref m26, .ref m27, .ref m28, .ref m29, .int v30, .ref m31, .ref m32, .ref m33, .int v34, .int v35, .int v36, .ref m37, .ref m38, .ref m39, .ref m40, .long v41])), (m5, .inl (k 1, 1000, .inl f5))] H := hP
                      have hD : va_D A [(mo, .inr (12, [.int v0, .ref m1, .ref m2, .ref m3, .ref m4, .ref m5, .int v6, .int L208f0x7, .int 2, .int L0f0x7, .int x_234, .long 0, .int v12, .int v13, .int v14, .int v15, .ref m16, .ref m17, .ref m18, .ref m19, .ref m20, .ref m21, .ref m22, .ref m23, .int v24, .ref m25, .ref m26, .ref m27, .ref m28, .ref m29, .int v30, .ref m31, .ref m32, .ref m33, .int v34, .int v35, .int v36, .ref m37, .ref m38, .ref m39, .ref m40, .long v41])), (m5, .inl (k 1, 1000, .inl f5))] := hD
                      refine lv_aload_n hx hb dX12_next_261 rfl (lv_at hl 0 rfl) ?_
                      refine lv_dup hx hb dX12_next_262 rfl ?_
                      refine va_get (D := D) (ci := 12) (v := .int L208f0x7) (C := RX12) (T := TX12) (N := 42) hx hb hts iT_X12 hown hK hP 0 rfl rfl 7 (by decide) (hts _ tw_6_60) (fun _ h9 => h9) rfl dX12_next_263 ?_
                      refine lv_iconst (v := 1) hx hb dX12_next_266 (by decide) ?_
                      refine lv_iadd hx hb dX12_next_267 ?_
                      refine lv_topi (fun x_235 ex_235 => ?_)
                      have zx_235 : x_235.toInt = L208f0x7.toInt + 1 := by rw [ex_235]; exact z_add rfl rfl (by omega) (by omega)
                      refine va_put (D := D) (ci := 12) (v := .int x_235) (ty := tyX12 7) (C := RX12) (T := TX12) (N := 42) hx hb hts iT_X12 tyX12 tyX12_ok nmX12 hown hK hP hD hS 0 rfl rfl 7 (by decide) (hts _ tw_6_60) (fun _ h9 => h9) rfl (tyX12_ok 7 (by decide)) rfl rfl (Nat.le_of_ble_eq_true rfl) dX12_next_268 (fun H locs hP hD hS => ?_)
                      have hP : va_P D vwCl [(mo, .inr (12, [.int v0, .ref m1, .ref m2, .ref m3, .ref m4, .ref m5, .int v6, .int x_235, .int 2, .int L0f0x7, .int x_234, .long 0, .int v12, .int v13, .int v14, .int v15, .ref m16, .ref m17, .ref m18, .ref m19, .ref m20, .ref m21, .ref m22, .ref m23, .int v24, .ref m25, .ref m26, .ref m27, .ref m28, .ref m29, .int v30, .ref m31, .ref m32, .ref m33, .int v34, .int v35, .int v36, .ref m37, .ref m38, .ref m39, .ref m40, .long v41])), (m5, .inl (k 1, 1000, .inl f5))] H := hP
                      have hD : va_D A [(mo, .inr (12, [.int v0, .ref m1, .ref m2, .ref m3, .ref m4, .ref m5, .int v6, .int x_235, .int 2, .int L0f0x7, .int x_234, .long 0, .int v12, .int v13, .int v14, .int v15, .ref m16, .ref m17, .ref m18, .ref m19, .ref m20, .ref m21, .ref m22, .ref m23, .int v24, .ref m25, .ref m26, .ref m27, .ref m28, .ref m29, .int v30, .ref m31, .ref m32, .ref m33, .int v34, .int v35, .int v36, .ref m37, .ref m38, .ref m39, .ref m40, .long v41])), (m5, .inl (k 1, 1000, .inl f5))] := hD
                      refine lv_goto (tgt := 208) hx hb dX12_next_271 (by decide) ?_
                      exact ih_222 _ _ _ _ (by omega) ⟨x_235, x_234, rfl, (show 2 ≤ x_235.toInt ∧ x_235.toInt ≤ 1000 from by omega), (show x_235.toInt ≤ v6.toInt from by omega), (show v7.toInt < x_235.toInt from by omega), hP.sub (ws' := [(mo, .inr (12, [.int v0, .ref m1, .ref m2, .ref m3, .ref m4, .ref m5, .int v6, .int x_235, .int 2, .int L0f0x7, .int x_234, .long 0, .int v12, .int v13, .int v14, .int v15, .ref m16, .ref m17, .ref m18, .ref m19, .ref m20, .ref m21, .ref m22, .ref m23, .int v24, .ref m25, .ref m26, .ref m27, .ref m28, .ref m29, .int v30, .ref m31, .ref m32, .ref m33, .int v34, .int v35, .int v36, .ref m37, .ref m38, .ref m39, .ref m40, .long v41])), (m5, .inl (k 1, 1000, .inl f5))]) [0, 1] rfl, hD.sub (ws' := [(mo, .inr (12, [.int v0, .ref m1, .ref m2, .ref m3, .ref m4, .ref m5, .int v6, .int x_235, .int 2, .int L0f0x7, .int x_234, .long 0, .int v12, .int v13, .int v14, .int v15, .ref m16, .ref m17, .ref m18, .ref m19, .ref m20, .ref m21, .ref m22, .ref m23, .int v24, .ref m25, .ref m26, .ref m27, .ref m28, .ref m29, .int v30, .ref m31, .ref m32, .ref m33, .int v34, .int v35, .int v36, .ref m37, .ref m38, .ref m39, .ref m40, .long v41])), (m5, .inl (k 1, 1000, .inl f5))]) [0, 1] (by decide +kernel) rfl, hS, lv_sub hl [0] rfl⟩
                    · skip
                      have zh_230 : 100000 < L208f0x10.toInt := z_nle h_230
                      refine lv_ldc (v := 1000000) hx hb hown (hts _ tw_7_6) dX12_next_233 ?_
                      refine lv_goto (tgt := 258) hx hb dX12_next_235 (by decide) ?_
                      refine va_put (D := D) (ci := 12) (v := .int 1000000) (ty := tyX12 10) (C := RX12) (T := TX12) (N := 42) hx hb hts iT_X12 tyX12 tyX12_ok nmX12 hown hK hP hD hS 0 rfl rfl 10 (by decide) (hts _ tw_6_63) (fun _ h9 => h9) rfl (tyX12_ok 10 (by decide)) rfl rfl (Nat.le_of_ble_eq_true rfl) dX12_next_258 (fun H locs hP hD hS => ?_)
                      have hP : va_P D vwCl [(mo, .inr (12, [.int v0, .ref m1, .ref m2, .ref m3, .ref m4, .ref m5, .int v6, .int L208f0x7, .int 2, .int L0f0x7, .int 1000000, .long 0, .int v12, .int v13, .int v14, .int v15, .ref m16, .ref m17, .ref m18, .ref m19, .ref m20, .ref m21, .ref m22, .ref m23, .int v24, .ref m25, .ref m26, .ref m27, .ref m28, .ref m29, .int v30, .ref m31, .ref m32, .ref m33, .int v34, .int v35, .int v36, .ref m37, .ref m38, .ref m39, .ref m40, .long v41])), (m5, .inl (k 1, 1000, .inl f5))] H := hP
                      have hD : va_D A [(mo, .inr (12, [.int v0, .ref m1, .ref m2, .ref m3, .ref m4, .ref m5, .int v6, .int L208f0x7, .int 2, .int L0f0x7, .int 1000000, .long 0, .int v12, .int v13, .int v14, .int v15, .ref m16, .ref m17, .ref m18, .ref m19, .ref m20, .ref m21, .ref m22, .ref m23, .int v24, .ref m25, .ref m26, .ref m27, .ref m28, .ref m29, .int v30, .ref m31, .ref m32, .ref m33, .int v34, .int v35, .int v36, .ref m37, .ref m38, .ref m39, .ref m40, .long v41])), (m5, .inl (k 1, 1000, .inl f5))] := hD
                      refine lv_aload_n hx hb dX12_next_261 rfl (lv_at hl 0 rfl) ?_
                      refine lv_dup hx hb dX12_next_262 rfl ?_
                      refine va_get (D := D) (ci := 12) (v := .int L208f0x7) (C := RX12) (T := TX12) (N := 42) hx hb hts iT_X12 hown hK hP 0 rfl rfl 7 (by decide) (hts _ tw_6_60) (fun _ h9 => h9) rfl dX12_next_263 ?_
                      refine lv_iconst (v := 1) hx hb dX12_next_266 (by decide) ?_
                      refine lv_iadd hx hb dX12_next_267 ?_
                      refine lv_topi (fun x_236 ex_236 => ?_)
                      have zx_236 : x_236.toInt = L208f0x7.toInt + 1 := by rw [ex_236]; exact z_add rfl rfl (by omega) (by omega)
                      refine va_put (D := D) (ci := 12) (v := .int x_236) (ty := tyX12 7) (C := RX12) (T := TX12) (N := 42) hx hb hts iT_X12 tyX12 tyX12_ok nmX12 hown hK hP hD hS 0 rfl rfl 7 (by decide) (hts _ tw_6_60) (fun _ h9 => h9) rfl (tyX12_ok 7 (by decide)) rfl rfl (Nat.le_of_ble_eq_true rfl) dX12_next_268 (fun H locs hP hD hS => ?_)
                      have hP : va_P D vwCl [(mo, .inr (12, [.int v0, .ref m1, .ref m2, .ref m3, .ref m4, .ref m5, .int v6, .int x_236, .int 2, .int L0f0x7, .int 1000000, .long 0, .int v12, .int v13, .int v14, .int v15, .ref m16, .ref m17, .ref m18, .ref m19, .ref m20, .ref m21, .ref m22, .ref m23, .int v24, .ref m25, .ref m26, .ref m27, .ref m28, .ref m29, .int v30, .ref m31, .ref m32, .ref m33, .int v34, .int v35, .int v36, .ref m37, .ref m38, .ref m39, .ref m40, .long v41])), (m5, .inl (k 1, 1000, .inl f5))] H := hP
                      have hD : va_D A [(mo, .inr (12, [.int v0, .ref m1, .ref m2, .ref m3, .ref m4, .ref m5, .int v6, .int x_236, .int 2, .int L0f0x7, .int 1000000, .long 0, .int v12, .int v13, .int v14, .int v15, .ref m16, .ref m17, .ref m18, .ref m19, .ref m20, .ref m21, .ref m22, .ref m23, .int v24, .ref m25, .ref m26, .ref m27, .ref m28, .ref m29, .int v30, .ref m31, .ref m32, .ref m33, .int v34, .int v35, .int v36, .ref m37, .ref m38, .ref m39, .ref m40, .long v41])), (m5, .inl (k 1, 1000, .inl f5))] := hD
                      refine lv_goto (tgt := 208) hx hb dX12_next_271 (by decide) ?_
                      exact ih_222 _ _ _ _ (by omega) ⟨x_236, 1000000, rfl, (show 2 ≤ x_236.toInt ∧ x_236.toInt ≤ 1000 from by omega), (show x_236.toInt ≤ v6.toInt from by omega), (show v7.toInt < x_236.toInt from by omega), hP.sub (ws' := [(mo, .inr (12, [.int v0, .ref m1, .ref m2, .ref m3, .ref m4, .ref m5, .int v6, .int x_236, .int 2, .int L0f0x7, .int 1000000, .long 0, .int v12, .int v13, .int v14, .int v15, .ref m16, .ref m17, .ref m18, .ref m19, .ref m20, .ref m21, .ref m22, .ref m23, .int v24, .ref m25, .ref m26, .ref m27, .ref m28, .ref m29, .int v30, .ref m31, .ref m32, .ref m33, .int v34, .int v35, .int v36, .ref m37, .ref m38, .ref m39, .ref m40, .long v41])), (m5, .inl (k 1, 1000, .inl f5))]) [0, 1] rfl, hD.sub (ws' := [(mo, .inr (12, [.int v0, .ref m1, .ref m2, .ref m3, .ref m4, .ref m5, .int v6, .int x_236, .int 2, .int L0f0x7, .int 1000000, .long 0, .int v12, .int v13, .int v14, .int v15, .ref m16, .ref m17, .ref m18, .ref m19, .ref m20, .ref m21, .ref m22, .ref m23, .int v24, .ref m25, .ref m26, .ref m27, .ref m28, .ref m29, .int v30, .ref m31, .ref m32, .ref m33, .int v34, .int v35, .int v36, .ref m37, .ref m38, .ref m39, .ref m40, .long v41])), (m5, .inl (k 1, 1000, .inl f5))]) [0, 1] (by decide +kernel) rfl, hS, lv_sub hl [0] rfl⟩
            · skip
              have zh_200 : ¬ r_195.toInt = 0 := z_ne h_200
              refine lv_aload_n hx hb dX12_next_95 rfl (lv_at hl 0 rfl) ?_
              refine lv_iconst (v := 1) hx hb dX12_next_96 (by decide) ?_
              refine va_put (D := D) (ci := 12) (v := .int 1) (ty := tyX12 8) (C := RX12) (T := TX12) (N := 42) hx hb hts iT_X12 tyX12 tyX12_ok nmX12 hown hK hP hD hS 0 rfl rfl 8 (by decide) (hts _ tw_6_61) (fun _ h9 => h9) rfl (tyX12_ok 8 (by decide)) rfl rfl (Nat.le_of_ble_eq_true rfl) dX12_next_97 (fun H locs hP hD hS => ?_)
              have hP : va_P D vwCl [(mo, .inr (12, [.int v0, .ref m1, .ref m2, .ref m3, .ref m4, .ref m5, .int v6, .int L0f0x7, .int 1, .int L0f0x7, .int 0, .long 0, .int v12, .int v13, .int v14, .int v15, .ref m16, .ref m17, .ref m18, .ref m19, .ref m20, .ref m21, .ref m22, .ref m23, .int v24, .ref m25, .ref m26, .ref m27, .ref m28, .ref m29, .int v30, .ref m31, .ref m32, .ref m33, .int v34, .int v35, .int v36, .ref m37, .ref m38, .ref m39, .ref m40, .long v41])), (m5, .inl (k 1, 1000, .inl f5))] H := hP
              have hD : va_D A [(mo, .inr (12, [.int v0, .ref m1, .ref m2, .ref m3, .ref m4, .ref m5, .int v6, .int L0f0x7, .int 1, .int L0f0x7, .int 0, .long 0, .int v12, .int v13, .int v14, .int v15, .ref m16, .ref m17, .ref m18, .ref m19, .ref m20, .ref m21, .ref m22, .ref m23, .int v24, .ref m25, .ref m26, .ref m27, .ref m28, .ref m29, .int v30, .ref m31, .ref m32, .ref m33, .int v34, .int v35, .int v36, .ref m37, .ref m38, .ref m39, .ref m40, .long v41])), (m5, .inl (k 1, 1000, .inl f5))] := hD
              refine lv_iconst (v := 0) hx hb dX12_next_100 (by decide) ?_
              refine lv_istore_n (lv' := [(1, .int 0), (0, .ref mo)]) hx hb dX12_next_101 rfl hl (by decide) rfl (fun ls hl => ?_)
              refine lv_aload_n hx hb dX12_next_102 rfl (lv_at hl 1 rfl) ?_
              refine lv_aload_n hx hb dX12_next_103 rfl (lv_at hl 1 rfl) ?_
              refine va_get (D := D) (ci := 12) (v := .int L0f0x7) (C := RX12) (T := TX12) (N := 42) hx hb hts iT_X12 hown hK hP 0 rfl rfl 7 (by decide) (hts _ tw_6_60) (fun _ h9 => h9) rfl dX12_next_104 ?_
              refine lv_bipush (v := 97) hx hb dX12_next_107 (by decide) ?_
              refine lv_bipush (v := 122) hx hb dX12_next_109 (by decide) ?_
              obtain ⟨hPc, hDc, hFc⟩ := sub3 hP hD hS hA (ws' := [(mo, .inr (12, [.int v0, .ref m1, .ref m2, .ref m3, .ref m4, .ref m5, .int v6, .int L0f0x7, .int 1, .int L0f0x7, .int 0, .long 0, .int v12, .int v13, .int v14, .int v15, .ref m16, .ref m17, .ref m18, .ref m19, .ref m20, .ref m21, .ref m22, .ref m23, .int v24, .ref m25, .ref m26, .ref m27, .ref m28, .ref m29, .int v30, .ref m31, .ref m32, .ref m33, .int v34, .int v35, .int v36, .ref m37, .ref m38, .ref m39, .ref m40, .long v41])), (m5, .inl (k 1, 1000, .inl f5))]) [0, 1] (by decide +kernel) rfl
              refine va_calli (va_runV (C := RX12) (As := [.int L0f0x7, .int 97, .int 122]) (rest := []) ⟨hx, hb, hml, hown, hts⟩ (c_X12_isByte l D k mo L0f0x7 97 122 v0 m1 m2 m3 m4 m5 v6 L0f0x7 1 L0f0x7 0 0 v12 v13 v14 v15 m16 m17 m18 m19 m20 m21 m22 m23 v24 m25 m26 m27 m28 m29 v30 m31 m32 m33 v34 v35 v36 m37 m38 m39 m40 v41 f5 H.size (show 0 ≤ L0f0x7.toInt ∧ L0f0x7.toInt ≤ 1000 from by omega) (show 0 ≤ v6.toInt ∧ v6.toInt ≤ 1000 from by omega) (show 0 ≤ v24.toInt ∧ v24.toInt ≤ 1023 from by omega)) (cwV 3 hts (gV tw_6_238 tw_7_0 tw_p_40 tw_1_13 tw_7_1) rfl rfl rfl hdV_X12_isByte ⟨Nat.le_of_ble_eq_true rfl, Nat.le_of_ble_eq_true rfl⟩) (cz_V hK hPc hDc hN (ci := 12) (q0 := 0) rfl rfl [.int L0f0x7, .int 97, .int 122]) rfl rfl hl.1 rfl (lv_room (Nat.le_of_ble_eq_true rfl)) dX12_next_111 ⟨Nat.le_of_ble_eq_true rfl, Nat.le_of_ble_eq_true rfl⟩) hS (fun q _ h => hFc q h) hFc (fun r_237 uZ tZ H1 locs ht hvm hw hB hz1 hk1 hS => ?_)
              obtain ⟨hP1, hK1, hD1⟩ := hB
              rw [ht] at hP1
              obtain ⟨hP, hD⟩ := va_join (wr := []) (w1 := [(mo, .inr (12, [.int v0, .ref m1, .ref m2, .ref m3, .ref m4, .ref m5, .int v6, .int L0f0x7, .int 1, .int L0f0x7, .int 0, .long 0, .int v12, .int v13, .int v14, .int v15, .ref m16, .ref m17, .ref m18, .ref m19, .ref m20, .ref m21, .ref m22, .ref m23, .int v24, .ref m25, .ref m26, .ref m27, .ref m28, .ref m29, .int v30, .ref m31, .ref m32, .ref m33, .int v34, .int v35, .int v36, .ref m37, .ref m38, .ref m39, .ref m40, .long v41])), (m5, .inl (k 1, 1000, .inl f5))]) hP hD [0, 1] [] rfl rfl (by decide +kernel) (by decide +kernel) hk1 hFc hP1 hD1
              clear hK1 hP1 hD1 hPc hDc hFc
              clear hk1 hz1 ht hvm
              have hP : va_P D vwCl [(mo, .inr (12, [.int v0, .ref m1, .ref m2, .ref m3, .ref m4, .ref m5, .int v6, .int L0f0x7, .int 1, .int L0f0x7, .int 0, .long 0, .int v12, .int v13, .int v14, .int v15, .ref m16, .ref m17, .ref m18, .ref m19, .ref m20, .ref m21, .ref m22, .ref m23, .int v24, .ref m25, .ref m26, .ref m27, .ref m28, .ref m29, .int v30, .ref m31, .ref m32, .ref m33, .int v34, .int v35, .int v36, .ref m37, .ref m38, .ref m39, .ref m40, .long v41])), (m5, .inl (k 1, 1000, .inl f5))] H1 := hP
              have hD : va_D A [(mo, .inr (12, [.int v0, .ref m1, .ref m2, .ref m3, .ref m4, .ref m5, .int v6, .int L0f0x7, .int 1, .int L0f0x7, .int 0, .long 0, .int v12, .int v13, .int v14, .int v15, .ref m16, .ref m17, .ref m18, .ref m19, .ref m20, .ref m21, .ref m22, .ref m23, .int v24, .ref m25, .ref m26, .ref m27, .ref m28, .ref m29, .int v30, .ref m31, .ref m32, .ref m33, .int v34, .int v35, .int v36, .ref m37, .ref m38, .ref m39, .ref m40, .long v41])), (m5, .inl (k 1, 1000, .inl f5))] := hD
              generalize H1 = H at hP hS ⊢
              have hw_238 : (0 ≤ r_237.toInt ∧ r_237.toInt ≤ 1) ∧ (r_237 = isByteOf f5 v6 L0f0x7 97 122) ∧ ((r_237.toInt = 1 ∧ L0f0x7.toInt < v6.toInt) ∨ r_237.toInt = 0) := hw
              obtain ⟨hw_239, hw_240, hw_241⟩ := hw_238
              clear hw
              obtain rfl : r_195 = r_237 := hw_198.trans hw_240.symm
              refine lv_if_eq (tgt := 185) hx hb dX12_next_114 (by decide) (fun h_242 => ?_) (fun h_242 => ?_)
              · skip
                have zh_242 : r_195.toInt = 0 := z_eq h_242
                exact False.elim (by omega)
              · skip
                have zh_242 : ¬ r_195.toInt = 0 := z_ne h_242
                refine lv_aload_n hx hb dX12_next_117 rfl (lv_at hl 1 rfl) ?_
                refine lv_iload_n hx hb dX12_next_118 rfl (lv_at hl 0 rfl) ?_
                refine lv_bipush (v := 11) hx hb dX12_next_119 (by decide) ?_
                refine lv_icmp_le (tgt := 130) hx hb dX12_next_121 (by decide) (fun _ => ?_) (fun c9 => absurd c9 (by decide))
                refine lv_ldc2 (v := 27) hx hb hown (hts _ tw_7_3) dX12_next_130 ?_
                refine lv_aload_n hx hb dX12_next_133 rfl (lv_at hl 1 rfl) ?_
                refine va_get (D := D) (ci := 12) (v := .long 0) (C := RX12) (T := TX12) (N := 42) hx hb hts iT_X12 hown hK hP 0 rfl rfl 11 (by decide) (hts _ tw_6_64) (fun _ h9 => h9) rfl dX12_next_134 ?_
                refine lv_lmul hx hb dX12_next_137 ?_
                refine lv_topl (fun x_243 ex_243 => ?_)
                obtain rfl : x_243 = 0 := ex_243.trans (by decide)
                refine lv_aload_n hx hb dX12_next_138 rfl (lv_at hl 1 rfl) ?_
                refine va_get (D := D) (ci := 12) (v := .ref m5) (C := RX12) (T := TX12) (N := 42) hx hb hts iT_X12 hown hK hP 0 rfl rfl 5 (by decide) (hts _ tw_6_58) (fun _ h9 => h9) rfl dX12_next_139 ?_
                refine lv_aload_n hx hb dX12_next_142 rfl (lv_at hl 1 rfl) ?_
                refine va_get (D := D) (ci := 12) (v := .int L0f0x7) (C := RX12) (T := TX12) (N := 42) hx hb hts iT_X12 hown hK hP 0 rfl rfl 7 (by decide) (hts _ tw_6_60) (fun _ h9 => h9) rfl dX12_next_143 ?_
                refine va_bald hx hb hK hP 1 1 rfl rfl (z_in (by omega) (by omega)) dX12_next_146 ?_
                refine lv_topi (fun x_244 ex_244 => ?_)
                refine lv_i2l (v := x_244.toInt64) hx hb dX12_next_147 rfl ?_
                refine lv_ladd hx hb dX12_next_148 ?_
                refine lv_topl (fun x_245 ex_245 => ?_)
                have zrx_244 := z_rng x_244
                have zx_245 : x_245.toInt = 0 + x_244.toInt := by rw [ex_245]; exact zl_add rfl (Int32.toInt_toInt64 _) (by omega) (by omega)
                refine lv_ldc2 (v := 96) hx hb hown (hts _ tw_7_4) dX12_next_149 ?_
                refine lv_lsub hx hb dX12_next_152 ?_
                refine lv_topl (fun x_246 ex_246 => ?_)
                have zx_246 : x_246.toInt = x_245.toInt - 96 := by rw [ex_246]; exact zl_sub rfl rfl (by omega) (by omega)
                refine va_put (D := D) (ci := 12) (v := .long x_246) (ty := tyX12 11) (C := RX12) (T := TX12) (N := 42) hx hb hts iT_X12 tyX12 tyX12_ok nmX12 hown hK hP hD hS 0 rfl rfl 11 (by decide) (hts _ tw_6_64) (fun _ h9 => h9) rfl (tyX12_ok 11 (by decide)) rfl rfl (Nat.le_of_ble_eq_true rfl) dX12_next_153 (fun H locs hP hD hS => ?_)
                have hP : va_P D vwCl [(mo, .inr (12, [.int v0, .ref m1, .ref m2, .ref m3, .ref m4, .ref m5, .int v6, .int L0f0x7, .int 1, .int L0f0x7, .int 0, .long x_246, .int v12, .int v13, .int v14, .int v15, .ref m16, .ref m17, .ref m18, .ref m19, .ref m20, .ref m21, .ref m22, .ref m23, .int v24, .ref m25, .ref m26, .ref m27, .ref m28, .ref m29, .int v30, .ref m31, .ref m32, .ref m33, .int v34, .int v35, .int v36, .ref m37, .ref m38, .ref m39, .ref m40, .long v41])), (m5, .inl (k 1, 1000, .inl f5))] H := hP
                have hD : va_D A [(mo, .inr (12, [.int v0, .ref m1, .ref m2, .ref m3, .ref m4, .ref m5, .int v6, .int L0f0x7, .int 1, .int L0f0x7, .int 0, .long x_246, .int v12, .int v13, .int v14, .int v15, .ref m16, .ref m17, .ref m18, .ref m19, .ref m20, .ref m21, .ref m22, .ref m23, .int v24, .ref m25, .ref m26, .ref m27, .ref m28, .ref m29, .int v30, .ref m31, .ref m32, .ref m33, .int v34, .int v35, .int v36, .ref m37, .ref m38, .ref m39, .ref m40, .long v41])), (m5, .inl (k 1, 1000, .inl f5))] := hD
                refine lv_iload_n hx hb dX12_next_156 rfl (lv_at hl 0 rfl) ?_
                refine lv_bipush (v := 11) hx hb dX12_next_157 (by decide) ?_
                refine lv_icmp_le (tgt := 169) hx hb dX12_next_159 (by decide) (fun _ => ?_) (fun c9 => absurd c9 (by decide))
                refine lv_aload_n hx hb dX12_next_169 rfl (lv_at hl 1 rfl) ?_
                refine lv_dup hx hb dX12_next_170 rfl ?_
                refine va_get (D := D) (ci := 12) (v := .int L0f0x7) (C := RX12) (T := TX12) (N := 42) hx hb hts iT_X12 hown hK hP 0 rfl rfl 7 (by decide) (hts _ tw_6_60) (fun _ h9 => h9) rfl dX12_next_171 ?_
                refine lv_iconst (v := 1) hx hb dX12_next_174 (by decide) ?_
                refine lv_iadd hx hb dX12_next_175 ?_
                refine lv_topi (fun x_247 ex_247 => ?_)
                have zx_247 : x_247.toInt = L0f0x7.toInt + 1 := by rw [ex_247]; exact z_add rfl rfl (by omega) (by omega)
                refine va_put (D := D) (ci := 12) (v := .int x_247) (ty := tyX12 7) (C := RX12) (T := TX12) (N := 42) hx hb hts iT_X12 tyX12 tyX12_ok nmX12 hown hK hP hD hS 0 rfl rfl 7 (by decide) (hts _ tw_6_60) (fun _ h9 => h9) rfl (tyX12_ok 7 (by decide)) rfl rfl (Nat.le_of_ble_eq_true rfl) dX12_next_176 (fun H locs hP hD hS => ?_)
                have hP : va_P D vwCl [(mo, .inr (12, [.int v0, .ref m1, .ref m2, .ref m3, .ref m4, .ref m5, .int v6, .int x_247, .int 1, .int L0f0x7, .int 0, .long x_246, .int v12, .int v13, .int v14, .int v15, .ref m16, .ref m17, .ref m18, .ref m19, .ref m20, .ref m21, .ref m22, .ref m23, .int v24, .ref m25, .ref m26, .ref m27, .ref m28, .ref m29, .int v30, .ref m31, .ref m32, .ref m33, .int v34, .int v35, .int v36, .ref m37, .ref m38, .ref m39, .ref m40, .long v41])), (m5, .inl (k 1, 1000, .inl f5))] H := hP
                have hD : va_D A [(mo, .inr (12, [.int v0, .ref m1, .ref m2, .ref m3, .ref m4, .ref m5, .int v6, .int x_247, .int 1, .int L0f0x7, .int 0, .long x_246, .int v12, .int v13, .int v14, .int v15, .ref m16, .ref m17, .ref m18, .ref m19, .ref m20, .ref m21, .ref m22, .ref m23, .int v24, .ref m25, .ref m26, .ref m27, .ref m28, .ref m29, .int v30, .ref m31, .ref m32, .ref m33, .int v34, .int v35, .int v36, .ref m37, .ref m38, .ref m39, .ref m40, .long v41])), (m5, .inl (k 1, 1000, .inl f5))] := hD
                refine lv_iinc (v := 1) (lv' := [(1, .int 1), (0, .ref mo)]) hx hb dX12_next_179 hl (k := 0) rfl (by decide) (by decide) rfl (fun ls hl => ?_)
                refine lv_goto (tgt := 102) hx hb dX12_next_182 (by decide) ?_
                refine loop_r (Wg := fun H locs ls => W p l e _ s m _ below meth c H locs _ _ _ (F0 m 102 ls [])) (fun n9 H locs ls => ∃ (L102l1 : Int32) (L102f0x7 : Int32) (L102f0x11 : Int64), n9 = (1000 - L102f0x7.toInt).toNat ∧ (2 ≤ L102f0x7.toInt ∧ L102f0x7.toInt ≤ 1000) ∧ (L102f0x7.toInt ≤ v6.toInt) ∧ (v7.toInt < L102f0x7.toInt) ∧ va_P D vwCl [(mo, .inr (12, [.int v0, .ref m1, .ref m2, .ref m3, .ref m4, .ref m5, .int v6, .int L102f0x7, .int 1, .int L0f0x7, .int 0, .long L102f0x11, .int v12, .int v13, .int v14, .int v15, .ref m16, .ref m17, .ref m18, .ref m19, .ref m20, .ref m21, .ref m22, .ref m23, .int v24, .ref m25, .ref m26, .ref m27, .ref m28, .ref m29, .int v30, .ref m31, .ref m32, .ref m33, .int v34, .int v35, .int v36, .ref m37, .ref m38, .ref m39, .ref m40, .long v41])), (m5, .inl (k 1, 1000, .inl f5))] H ∧ va_D A [(mo, .inr (12, [.int v0, .ref m1, .ref m2, .ref m3, .ref m4, .ref m5, .int v6, .int L102f0x7, .int 1, .int L0f0x7, .int 0, .long L102f0x11, .int v12, .int v13, .int v14, .int v15, .ref m16, .ref m17, .ref m18, .ref m19, .ref m20, .ref m21, .ref m22, .ref m23, .int v24, .ref m25, .ref m26, .ref m27, .ref m28, .ref m29, .int v30, .ref m31, .ref m32, .ref m33, .int v34, .int v35, .int v36, .ref m37, .ref m38, .ref m39, .ref m40, .long v41])), (m5, .inl (k 1, 1000, .inl f5))] ∧ va_S A s.heap H locs ∧ lv_has ls 2 [(0, .ref mo), (1, .int L102l1)]) (fun n9 H locs ls hI ih_249 => ?_) _ _ _ _ ⟨1, x_247, x_246, rfl, (show 2 ≤ x_247.toInt ∧ x_247.toInt ≤ 1000 from by omega), (show x_247.toInt ≤ v6.toInt from by omega), (show v7.toInt < x_247.toInt from by omega), hP.sub (ws' := [(mo, .inr (12, [.int v0, .ref m1, .ref m2, .ref m3, .ref m4, .ref m5, .int v6, .int x_247, .int 1, .int L0f0x7, .int 0, .long x_246, .int v12, .int v13, .int v14, .int v15, .ref m16, .ref m17, .ref m18, .ref m19, .ref m20, .ref m21, .ref m22, .ref m23, .int v24, .ref m25, .ref m26, .ref m27, .ref m28, .ref m29, .int v30, .ref m31, .ref m32, .ref m33, .int v34, .int v35, .int v36, .ref m37, .ref m38, .ref m39, .ref m40, .long v41])), (m5, .inl (k 1, 1000, .inl f5))]) [0, 1] rfl, hD.sub (ws' := [(mo, .inr (12, [.int v0, .ref m1, .ref m2, .ref m3, .ref m4, .ref m5, .int v6, .int x_247, .int 1, .int L0f0x7, .int 0, .long x_246, .int v12, .int v13, .int v14, .int v15, .ref m16, .ref m17, .ref m18, .ref m19, .ref m20, .ref m21, .ref m22, .ref m23, .int v24, .ref m25, .ref m26, .ref m27, .ref m28, .ref m29, .int v30, .ref m31, .ref m32, .ref m33, .int v34, .int v35, .int v36, .ref m37, .ref m38, .ref m39, .ref m40, .long v41])), (m5, .inl (k 1, 1000, .inl f5))]) [0, 1] (by decide +kernel) rfl, hS, lv_sub hl [1, 0] rfl⟩
                clear hP hD hS hl
                obtain ⟨L102l1, L102f0x7, L102f0x11, en_250, zL102f0x7, hi102x0, hi102x1, hP, hD, hS, hl⟩ := hI
                refine lv_aload_n hx hb dX12_next_102 rfl (lv_at hl 0 rfl) ?_
                refine lv_aload_n hx hb dX12_next_103 rfl (lv_at hl 0 rfl) ?_
                refine va_get (D := D) (ci := 12) (v := .int L102f0x7) (C := RX12) (T := TX12) (N := 42) hx hb hts iT_X12 hown hK hP 0 rfl rfl 7 (by decide) (hts _ tw_6_60) (fun _ h9 => h9) rfl dX12_next_104 ?_
                refine lv_bipush (v := 97) hx hb dX12_next_107 (by decide) ?_
                refine lv_bipush (v := 122) hx hb dX12_next_109 (by decide) ?_
                obtain ⟨hPc, hDc, hFc⟩ := sub3 hP hD hS hA (ws' := [(mo, .inr (12, [.int v0, .ref m1, .ref m2, .ref m3, .ref m4, .ref m5, .int v6, .int L102f0x7, .int 1, .int L0f0x7, .int 0, .long L102f0x11, .int v12, .int v13, .int v14, .int v15, .ref m16, .ref m17, .ref m18, .ref m19, .ref m20, .ref m21, .ref m22, .ref m23, .int v24, .ref m25, .ref m26, .ref m27, .ref m28, .ref m29, .int v30, .ref m31, .ref m32, .ref m33, .int v34, .int v35, .int v36, .ref m37, .ref m38, .ref m39, .ref m40, .long v41])), (m5, .inl (k 1, 1000, .inl f5))]) [0, 1] (by decide +kernel) rfl
                refine va_calli (va_runV (C := RX12) (As := [.int L102f0x7, .int 97, .int 122]) (rest := []) ⟨hx, hb, hml, hown, hts⟩ (c_X12_isByte l D k mo L102f0x7 97 122 v0 m1 m2 m3 m4 m5 v6 L102f0x7 1 L0f0x7 0 L102f0x11 v12 v13 v14 v15 m16 m17 m18 m19 m20 m21 m22 m23 v24 m25 m26 m27 m28 m29 v30 m31 m32 m33 v34 v35 v36 m37 m38 m39 m40 v41 f5 H.size (show 0 ≤ L102f0x7.toInt ∧ L102f0x7.toInt ≤ 1000 from by omega) (show 0 ≤ v6.toInt ∧ v6.toInt ≤ 1000 from by omega) (show 0 ≤ v24.toInt ∧ v24.toInt ≤ 1023 from by omega)) (cwV 3 hts (gV tw_6_238 tw_7_0 tw_p_40 tw_1_13 tw_7_1) rfl rfl rfl hdV_X12_isByte ⟨Nat.le_of_ble_eq_true rfl, Nat.le_of_ble_eq_true rfl⟩) (cz_V hK hPc hDc hN (ci := 12) (q0 := 0) rfl rfl [.int L102f0x7, .int 97, .int 122]) rfl rfl hl.1 rfl (lv_room (Nat.le_of_ble_eq_true rfl)) dX12_next_111 ⟨Nat.le_of_ble_eq_true rfl, Nat.le_of_ble_eq_true rfl⟩) hS (fun q _ h => hFc q h) hFc (fun r_251 uZ tZ H1 locs ht hvm hw hB hz1 hk1 hS => ?_)
                obtain ⟨hP1, hK1, hD1⟩ := hB
                rw [ht] at hP1
                obtain ⟨hP, hD⟩ := va_join (wr := []) (w1 := [(mo, .inr (12, [.int v0, .ref m1, .ref m2, .ref m3, .ref m4, .ref m5, .int v6, .int L102f0x7, .int 1, .int L0f0x7, .int 0, .long L102f0x11, .int v12, .int v13, .int v14, .int v15, .ref m16, .ref m17, .ref m18, .ref m19, .ref m20, .ref m21, .ref m22, .ref m23, .int v24, .ref m25, .ref m26, .ref m27, .ref m28, .ref m29, .int v30, .ref m31, .ref m32, .ref m33, .int v34, .int v35, .int v36, .ref m37, .ref m38, .ref m39, .ref m40, .long v41])), (m5, .inl (k 1, 1000, .inl f5))]) hP hD [0, 1] [] rfl rfl (by decide +kernel) (by decide +kernel) hk1 hFc hP1 hD1
                clear hK1 hP1 hD1 hPc hDc hFc
                clear hk1 hz1 ht hvm
                have hP : va_P D vwCl [(mo, .inr (12, [.int v0, .ref m1, .ref m2, .ref m3, .ref m4, .ref m5, .int v6, .int L102f0x7, .int 1, .int L0f0x7, .int 0, .long L102f0x11, .int v12, .int v13, .int v14, .int v15, .ref m16, .ref m17, .ref m18, .ref m19, .ref m20, .ref m21, .ref m22, .ref m23, .int v24, .ref m25, .ref m26, .ref m27, .ref m28, .ref m29, .int v30, .ref m31, .ref m32, .ref m33, .int v34, .int v35, .int v36, .ref m37, .ref m38, .ref m39, .ref m40, .long v41])), (m5, .inl (k 1, 1000, .inl f5))] H1 := hP
                have hD : va_D A [(mo, .inr (12, [.int v0, .ref m1, .ref m2, .ref m3, .ref m4, .ref m5, .int v6, .int L102f0x7, .int 1, .int L0f0x7, .int 0, .long L102f0x11, .int v12, .int v13, .int v14, .int v15, .ref m16, .ref m17, .ref m18, .ref m19, .ref m20, .ref m21, .ref m22, .ref m23, .int v24, .ref m25, .ref m26, .ref m27, .ref m28, .ref m29, .int v30, .ref m31, .ref m32, .ref m33, .int v34, .int v35, .int v36, .ref m37, .ref m38, .ref m39, .ref m40, .long v41])), (m5, .inl (k 1, 1000, .inl f5))] := hD
                generalize H1 = H at hP hS ⊢
                have hw_252 : (0 ≤ r_251.toInt ∧ r_251.toInt ≤ 1) ∧ (r_251 = isByteOf f5 v6 L102f0x7 97 122) ∧ ((r_251.toInt = 1 ∧ L102f0x7.toInt < v6.toInt) ∨ r_251.toInt = 0) := hw
                obtain ⟨hw_253, hw_254, hw_255⟩ := hw_252
                clear hw
                refine lv_if_eq (tgt := 185) hx hb dX12_next_114 (by decide) (fun h_256 => ?_) (fun h_256 => ?_)
                · skip
                  have zh_256 : r_251.toInt = 0 := z_eq h_256
                  refine lv_goto (tgt := 307) hx hb dX12_next_185 (by decide) ?_
                  obtain ⟨hP9, hD9⟩ := sub2 hP hD (ws' := [(mo, .inr (12, [.int v0, .ref m1, .ref m2, .ref m3, .ref m4, .ref m5, .int v6, .int L102f0x7, .int 1, .int L0f0x7, .int 0, .long L102f0x11, .int v12, .int v13, .int v14, .int v15, .ref m16, .ref m17, .ref m18, .ref m19, .ref m20, .ref m21, .ref m22, .ref m23, .int v24, .ref m25, .ref m26, .ref m27, .ref m28, .ref m29, .int v30, .ref m31, .ref m32, .ref m33, .int v34, .int v35, .int v36, .ref m37, .ref m38, .ref m39, .ref m40, .long v41])), (m5, .inl (k 1, 1000, .inl f5))]) [0, 1] (by decide +kernel) rfl
                  exact W.vret hx hb hr (fun tZ ht hW => ⟨⟨(L102f0x7, 1, L0f0x7, 0, L102f0x11), rfl, ⟨(show 0 ≤ L102f0x7.toInt ∧ L102f0x7.toInt ≤ 1000 from by omega), (show 0 ≤ 1 ∧ 1 ≤ 4 from by omega), (show 0 ≤ L0f0x7.toInt ∧ L0f0x7.toInt ≤ 1000 from by omega), (show v7.toInt ≤ L102f0x7.toInt ∧ L102f0x7.toInt ≤ v6.toInt from by omega), (show 1 = 0 ∨ v7.toInt < L102f0x7.toInt from by omega)⟩, by rw [ht]; exact hP9, va_K.moved hW.alike hK, hD9⟩, hS.F ht⟩) hS.2.2 dX12_next_307
                · skip
                  have zh_256 : ¬ r_251.toInt = 0 := z_ne h_256
                  refine lv_aload_n hx hb dX12_next_117 rfl (lv_at hl 0 rfl) ?_
                  refine lv_iload_n hx hb dX12_next_118 rfl (lv_at hl 1 rfl) ?_
                  refine lv_bipush (v := 11) hx hb dX12_next_119 (by decide) ?_
                  refine lv_icmp_le (tgt := 130) hx hb dX12_next_121 (by decide) (fun h_257 => ?_) (fun h_257 => ?_)
                  · skip
                    have zh_257 : L102l1.toInt ≤ 11 := z_le h_257
                    refine lv_ldc2 (v := 27) hx hb hown (hts _ tw_7_3) dX12_next_130 ?_
                    refine lv_aload_n hx hb dX12_next_133 rfl (lv_at hl 0 rfl) ?_
                    refine va_get (D := D) (ci := 12) (v := .long L102f0x11) (C := RX12) (T := TX12) (N := 42) hx hb hts iT_X12 hown hK hP 0 rfl rfl 11 (by decide) (hts _ tw_6_64) (fun _ h9 => h9) rfl dX12_next_134 ?_
                    refine lv_lmul hx hb dX12_next_137 ?_
                    refine lv_topl (fun x_258 ex_258 => ?_)
                    refine lv_aload_n hx hb dX12_next_138 rfl (lv_at hl 0 rfl) ?_
                    refine va_get (D := D) (ci := 12) (v := .ref m5) (C := RX12) (T := TX12) (N := 42) hx hb hts iT_X12 hown hK hP 0 rfl rfl 5 (by decide) (hts _ tw_6_58) (fun _ h9 => h9) rfl dX12_next_139 ?_
                    refine lv_aload_n hx hb dX12_next_142 rfl (lv_at hl 0 rfl) ?_
                    refine va_get (D := D) (ci := 12) (v := .int L102f0x7) (C := RX12) (T := TX12) (N := 42) hx hb hts iT_X12 hown hK hP 0 rfl rfl 7 (by decide) (hts _ tw_6_60) (fun _ h9 => h9) rfl dX12_next_143 ?_
                    refine va_bald hx hb hK hP 1 1 rfl rfl (z_in (by omega) (by omega)) dX12_next_146 ?_
                    refine lv_topi (fun x_259 ex_259 => ?_)
                    refine lv_i2l (v := x_259.toInt64) hx hb dX12_next_147 rfl ?_
                    refine lv_ladd hx hb dX12_next_148 ?_
                    refine lv_topl (fun x_260 ex_260 => ?_)
                    have zrx_259 := z_rng x_259
                    refine lv_ldc2 (v := 96) hx hb hown (hts _ tw_7_4) dX12_next_149 ?_
                    refine lv_lsub hx hb dX12_next_152 ?_
                    refine lv_topl (fun x_261 ex_261 => ?_)
                    refine va_put (D := D) (ci := 12) (v := .long x_261) (ty := tyX12 11) (C := RX12) (T := TX12) (N := 42) hx hb hts iT_X12 tyX12 tyX12_ok nmX12 hown hK hP hD hS 0 rfl rfl 11 (by decide) (hts _ tw_6_64) (fun _ h9 => h9) rfl (tyX12_ok 11 (by decide)) rfl rfl (Nat.le_of_ble_eq_true rfl) dX12_next_153 (fun H locs hP hD hS => ?_)
                    have hP : va_P D vwCl [(mo, .inr (12, [.int v0, .ref m1, .ref m2, .ref m3, .ref m4, .ref m5, .int v6, .int L102f0x7, .int 1, .int L0f0x7, .int 0, .long x_261, .int v12, .int v13, .int v14, .int v15, .ref m16, .ref m17, .ref m18, .ref m19, .ref m20, .ref m21, .ref m22, .ref m23, .int v24, .ref m25, .ref m26, .ref m27, .ref m28, .ref m29, .int v30, .ref m31, .ref m32, .ref m33, .int v34, .int v35, .int v36, .ref m37, .ref m38, .ref m39, .ref m40, .long v41])), (m5, .inl (k 1, 1000, .inl f5))] H := hP
                    have hD : va_D A [(mo, .inr (12, [.int v0, .ref m1, .ref m2, .ref m3, .ref m4, .ref m5, .int v6, .int L102f0x7, .int 1, .int L0f0x7, .int 0, .long x_261, .int v12, .int v13, .int v14, .int v15, .ref m16, .ref m17, .ref m18, .ref m19, .ref m20, .ref m21, .ref m22, .ref m23, .int v24, .ref m25, .ref m26, .ref m27, .ref m28, .ref m29, .int v30, .ref m31, .ref m32, .ref m33, .int v34, .int v35, .int v36, .ref m37, .ref m38, .ref m39, .ref m40, .long v41])), (m5, .inl (k 1, 1000, .inl f5))] := hD
                    refine lv_iload_n hx hb dX12_next_156 rfl (lv_at hl 1 rfl) ?_
                    refine lv_bipush (v := 11) hx hb dX12_next_157 (by decide) ?_
                    refine lv_icmp_le (tgt := 169) hx hb dX12_next_159 (by decide) (fun h_262 => ?_) (fun h_262 => ?_)
                    · skip
                      have zh_262 : L102l1.toInt ≤ 11 := z_le h_262
                      refine lv_aload_n hx hb dX12_next_169 rfl (lv_at hl 0 rfl) ?_
                      refine lv_dup hx hb dX12_next_170 rfl ?_
                      refine va_get (D := D) (ci := 12) (v := .int L102f0x7) (C := RX12) (T := TX12) (N := 42) hx hb hts iT_X12 hown hK hP 0 rfl rfl 7 (by decide) (hts _ tw_6_60) (fun _ h9 => h9) rfl dX12_next_171 ?_
                      refine lv_iconst (v := 1) hx hb dX12_next_174 (by decide) ?_
                      refine lv_iadd hx hb dX12_next_175 ?_
                      refine lv_topi (fun x_263 ex_263 => ?_)
                      have zx_263 : x_263.toInt = L102f0x7.toInt + 1 := by rw [ex_263]; exact z_add rfl rfl (by omega) (by omega)
                      refine va_put (D := D) (ci := 12) (v := .int x_263) (ty := tyX12 7) (C := RX12) (T := TX12) (N := 42) hx hb hts iT_X12 tyX12 tyX12_ok nmX12 hown hK hP hD hS 0 rfl rfl 7 (by decide) (hts _ tw_6_60) (fun _ h9 => h9) rfl (tyX12_ok 7 (by decide)) rfl rfl (Nat.le_of_ble_eq_true rfl) dX12_next_176 (fun H locs hP hD hS => ?_)
                      have hP : va_P D vwCl [(mo, .inr (12, [.int v0, .ref m1, .ref m2, .ref m3, .ref m4, .ref m5, .int v6, .int x_263, .int 1, .int L0f0x7, .int 0, .long x_261, .int v12, .int v13, .int v14, .int v15, .ref m16, .ref m17, .ref m18, .ref m19, .ref m20, .ref m21, .ref m22, .ref m23, .int v24, .ref m25, .ref m26, .ref m27, .ref m28, .ref m29, .int v30, .ref m31, .ref m32, .ref m33, .int v34, .int v35, .int v36, .ref m37, .ref m38, .ref m39, .ref m40, .long v41])), (m5, .inl (k 1, 1000, .inl f5))] H := hP
                      have hD : va_D A [(mo, .inr (12, [.int v0, .ref m1, .ref m2, .ref m3, .ref m4, .ref m5, .int v6, .int x_263, .int 1, .int L0f0x7, .int 0, .long x_261, .int v12, .int v13, .int v14, .int v15, .ref m16, .ref m17, .ref m18, .ref m19, .ref m20, .ref m21, .ref m22, .ref m23, .int v24, .ref m25, .ref m26, .ref m27, .ref m28, .ref m29, .int v30, .ref m31, .ref m32, .ref m33, .int v34, .int v35, .int v36, .ref m37, .ref m38, .ref m39, .ref m40, .long v41])), (m5, .inl (k 1, 1000, .inl f5))] := hD
                      obtain ⟨x_264, ex_264⟩ : ∃ y : Int32, y = L102l1 + 1 := ⟨_, rfl⟩
                      have zrL102l1 := z_rng L102l1
                      have zx_264 : x_264.toInt = L102l1.toInt + 1 := by rw [ex_264]; exact z_add rfl rfl (by omega) (by omega)
                      refine lv_iinc (v := x_264) (lv' := [(1, .int x_264), (0, .ref mo)]) hx hb dX12_next_179 hl (k := 1) rfl (by rw [ex_264]; rfl) (by decide) rfl (fun ls hl => ?_)
                      refine lv_goto (tgt := 102) hx hb dX12_next_182 (by decide) ?_
                      exact ih_249 _ _ _ _ (by omega) ⟨x_264, x_263, x_261, rfl, (show 2 ≤ x_263.toInt ∧ x_263.toInt ≤ 1000 from by omega), (show x_263.toInt ≤ v6.toInt from by omega), (show v7.toInt < x_263.toInt from by omega), hP.sub (ws' := [(mo, .inr (12, [.int v0, .ref m1, .ref m2, .ref m3, .ref m4, .ref m5, .int v6, .int x_263, .int 1, .int L0f0x7, .int 0, .long x_261, .int v12, .int v13, .int v14, .int v15, .ref m16, .ref m17, .ref m18, .ref m19, .ref m20, .ref m21, .ref m22, .ref m23, .int v24, .ref m25, .ref m26, .ref m27, .ref m28, .ref m29, .int v30, .ref m31, .ref m32, .ref m33, .int v34, .int v35, .int v36, .ref m37, .ref m38, .ref m39, .ref m40, .long v41])), (m5, .inl (k 1, 1000, .inl f5))]) [0, 1] rfl, hD.sub (ws' := [(mo, .inr (12, [.int v0, .ref m1, .ref m2, .ref m3, .ref m4, .ref m5, .int v6, .int x_263, .int 1, .int L0f0x7, .int 0, .long x_261, .int v12, .int v13, .int v14, .int v15, .ref m16, .ref m17, .ref m18, .ref m19, .ref m20, .ref m21, .ref m22, .ref m23, .int v24, .ref m25, .ref m26, .ref m27, .ref m28, .ref m29, .int v30, .ref m31, .ref m32, .ref m33, .int v34, .int v35, .int v36, .ref m37, .ref m38, .ref m39, .ref m40, .long v41])), (m5, .inl (k 1, 1000, .inl f5))]) [0, 1] (by decide +kernel) rfl, hS, lv_sub hl [1, 0] rfl⟩
                    · skip
                      have zh_262 : 11 < L102l1.toInt := z_nle h_262
                      exact False.elim (by omega)
                  · skip
                    have zh_257 : 11 < L102l1.toInt := z_nle h_257
                    refine lv_ldc2 (v := (-1)) hx hb hown (hts _ tw_7_2) dX12_next_124 ?_
                    refine lv_goto (tgt := 153) hx hb dX12_next_127 (by decide) ?_
                    refine va_put (D := D) (ci := 12) (v := .long (-1)) (ty := tyX12 11) (C := RX12) (T := TX12) (N := 42) hx hb hts iT_X12 tyX12 tyX12_ok nmX12 hown hK hP hD hS 0 rfl rfl 11 (by decide) (hts _ tw_6_64) (fun _ h9 => h9) rfl (tyX12_ok 11 (by decide)) rfl rfl (Nat.le_of_ble_eq_true rfl) dX12_next_153 (fun H locs hP hD hS => ?_)
                    have hP : va_P D vwCl [(mo, .inr (12, [.int v0, .ref m1, .ref m2, .ref m3, .ref m4, .ref m5, .int v6, .int L102f0x7, .int 1, .int L0f0x7, .int 0, .long (-1), .int v12, .int v13, .int v14, .int v15, .ref m16, .ref m17, .ref m18, .ref m19, .ref m20, .ref m21, .ref m22, .ref m23, .int v24, .ref m25, .ref m26, .ref m27, .ref m28, .ref m29, .int v30, .ref m31, .ref m32, .ref m33, .int v34, .int v35, .int v36, .ref m37, .ref m38, .ref m39, .ref m40, .long v41])), (m5, .inl (k 1, 1000, .inl f5))] H := hP
                    have hD : va_D A [(mo, .inr (12, [.int v0, .ref m1, .ref m2, .ref m3, .ref m4, .ref m5, .int v6, .int L102f0x7, .int 1, .int L0f0x7, .int 0, .long (-1), .int v12, .int v13, .int v14, .int v15, .ref m16, .ref m17, .ref m18, .ref m19, .ref m20, .ref m21, .ref m22, .ref m23, .int v24, .ref m25, .ref m26, .ref m27, .ref m28, .ref m29, .int v30, .ref m31, .ref m32, .ref m33, .int v34, .int v35, .int v36, .ref m37, .ref m38, .ref m39, .ref m40, .long v41])), (m5, .inl (k 1, 1000, .inl f5))] := hD
                    refine lv_iload_n hx hb dX12_next_156 rfl (lv_at hl 1 rfl) ?_
                    refine lv_bipush (v := 11) hx hb dX12_next_157 (by decide) ?_
                    refine lv_icmp_le (tgt := 169) hx hb dX12_next_159 (by decide) (fun h_265 => ?_) (fun h_265 => ?_)
                    · skip
                      have zh_265 : L102l1.toInt ≤ 11 := z_le h_265
                      exact False.elim (by omega)
                    · skip
                      have zh_265 : 11 < L102l1.toInt := z_nle h_265
                      refine lv_aload_n hx hb dX12_next_162 rfl (lv_at hl 0 rfl) ?_
                      refine lv_ldc2 (v := (-1)) hx hb hown (hts _ tw_7_2) dX12_next_163 ?_
                      refine va_put (D := D) (ci := 12) (v := .long (-1)) (ty := tyX12 11) (C := RX12) (T := TX12) (N := 42) hx hb hts iT_X12 tyX12 tyX12_ok nmX12 hown hK hP hD hS 0 rfl rfl 11 (by decide) (hts _ tw_6_64) (fun _ h9 => h9) rfl (tyX12_ok 11 (by decide)) rfl rfl (Nat.le_of_ble_eq_true rfl) dX12_next_166 (fun H locs hP hD hS => ?_)
                      have hP : va_P D vwCl [(mo, .inr (12, [.int v0, .ref m1, .ref m2, .ref m3, .ref m4, .ref m5, .int v6, .int L102f0x7, .int 1, .int L0f0x7, .int 0, .long (-1), .int v12, .int v13, .int v14, .int v15, .ref m16, .ref m17, .ref m18, .ref m19, .ref m20, .ref m21, .ref m22, .ref m23, .int v24, .ref m25, .ref m26, .ref m27, .ref m28, .ref m29, .int v30, .ref m31, .ref m32, .ref m33, .int v34, .int v35, .int v36, .ref m37, .ref m38, .ref m39, .ref m40, .long v41])), (m5, .inl (k 1, 1000, .inl f5))] H := hP
                      have hD : va_D A [(mo, .inr (12, [.int v0, .ref m1, .ref m2, .ref m3, .ref m4, .ref m5, .int v6, .int L102f0x7, .int 1, .int L0f0x7, .int 0, .long (-1), .int v12, .int v13, .int v14, .int v15, .ref m16, .ref m17, .ref m18, .ref m19, .ref m20, .ref m21, .ref m22, .ref m23, .int v24, .ref m25, .ref m26, .ref m27, .ref m28, .ref m29, .int v30, .ref m31, .ref m32, .ref m33, .int v34, .int v35, .int v36, .ref m37, .ref m38, .ref m39, .ref m40, .long v41])), (m5, .inl (k 1, 1000, .inl f5))] := hD
                      refine lv_aload_n hx hb dX12_next_169 rfl (lv_at hl 0 rfl) ?_
                      refine lv_dup hx hb dX12_next_170 rfl ?_
                      refine va_get (D := D) (ci := 12) (v := .int L102f0x7) (C := RX12) (T := TX12) (N := 42) hx hb hts iT_X12 hown hK hP 0 rfl rfl 7 (by decide) (hts _ tw_6_60) (fun _ h9 => h9) rfl dX12_next_171 ?_
                      refine lv_iconst (v := 1) hx hb dX12_next_174 (by decide) ?_
                      refine lv_iadd hx hb dX12_next_175 ?_
                      refine lv_topi (fun x_266 ex_266 => ?_)
                      have zx_266 : x_266.toInt = L102f0x7.toInt + 1 := by rw [ex_266]; exact z_add rfl rfl (by omega) (by omega)
                      refine va_put (D := D) (ci := 12) (v := .int x_266) (ty := tyX12 7) (C := RX12) (T := TX12) (N := 42) hx hb hts iT_X12 tyX12 tyX12_ok nmX12 hown hK hP hD hS 0 rfl rfl 7 (by decide) (hts _ tw_6_60) (fun _ h9 => h9) rfl (tyX12_ok 7 (by decide)) rfl rfl (Nat.le_of_ble_eq_true rfl) dX12_next_176 (fun H locs hP hD hS => ?_)
                      have hP : va_P D vwCl [(mo, .inr (12, [.int v0, .ref m1, .ref m2, .ref m3, .ref m4, .ref m5, .int v6, .int x_266, .int 1, .int L0f0x7, .int 0, .long (-1), .int v12, .int v13, .int v14, .int v15, .ref m16, .ref m17, .ref m18, .ref m19, .ref m20, .ref m21, .ref m22, .ref m23, .int v24, .ref m25, .ref m26, .ref m27, .ref m28, .ref m29, .int v30, .ref m31, .ref m32, .ref m33, .int v34, .int v35, .int v36, .ref m37, .ref m38, .ref m39, .ref m40, .long v41])), (m5, .inl (k 1, 1000, .inl f5))] H := hP
                      have hD : va_D A [(mo, .inr (12, [.int v0, .ref m1, .ref m2, .ref m3, .ref m4, .ref m5, .int v6, .int x_266, .int 1, .int L0f0x7, .int 0, .long (-1), .int v12, .int v13, .int v14, .int v15, .ref m16, .ref m17, .ref m18, .ref m19, .ref m20, .ref m21, .ref m22, .ref m23, .int v24, .ref m25, .ref m26, .ref m27, .ref m28, .ref m29, .int v30, .ref m31, .ref m32, .ref m33, .int v34, .int v35, .int v36, .ref m37, .ref m38, .ref m39, .ref m40, .long v41])), (m5, .inl (k 1, 1000, .inl f5))] := hD
                      obtain ⟨x_267, ex_267⟩ : ∃ y : Int32, y = L102l1 + 1 := ⟨_, rfl⟩
                      have zrL102l1 := z_rng L102l1
                      refine lv_iinc (v := x_267) (lv' := [(1, .int x_267), (0, .ref mo)]) hx hb dX12_next_179 hl (k := 1) rfl (by rw [ex_267]; rfl) (by decide) rfl (fun ls hl => ?_)
                      refine lv_goto (tgt := 102) hx hb dX12_next_182 (by decide) ?_
                      exact ih_249 _ _ _ _ (by omega) ⟨x_267, x_266, (-1), rfl, (show 2 ≤ x_266.toInt ∧ x_266.toInt ≤ 1000 from by omega), (show x_266.toInt ≤ v6.toInt from by omega), (show v7.toInt < x_266.toInt from by omega), hP.sub (ws' := [(mo, .inr (12, [.int v0, .ref m1, .ref m2, .ref m3, .ref m4, .ref m5, .int v6, .int x_266, .int 1, .int L0f0x7, .int 0, .long (-1), .int v12, .int v13, .int v14, .int v15, .ref m16, .ref m17, .ref m18, .ref m19, .ref m20, .ref m21, .ref m22, .ref m23, .int v24, .ref m25, .ref m26, .ref m27, .ref m28, .ref m29, .int v30, .ref m31, .ref m32, .ref m33, .int v34, .int v35, .int v36, .ref m37, .ref m38, .ref m39, .ref m40, .long v41])), (m5, .inl (k 1, 1000, .inl f5))]) [0, 1] rfl, hD.sub (ws' := [(mo, .inr (12, [.int v0, .ref m1, .ref m2, .ref m3, .ref m4, .ref m5, .int v6, .int x_266, .int 1, .int L0f0x7, .int 0, .long (-1), .int v12, .int v13, .int v14, .int v15, .ref m16, .ref m17, .ref m18, .ref m19, .ref m20, .ref m21, .ref m22, .ref m23, .int v24, .ref m25, .ref m26, .ref m27, .ref m28, .ref m29, .int v30, .ref m31, .ref m32, .ref m33, .int v34, .int v35, .int v36, .ref m37, .ref m38, .ref m39, .ref m40, .long v41])), (m5, .inl (k 1, 1000, .inl f5))]) [0, 1] (by decide +kernel) rfl, hS, lv_sub hl [1, 0] rfl⟩
          · skip
            have zh_194 : L0f0x7.toInt = v6.toInt := z_eq h_194
            refine lv_aload_n hx hb dX12_next_72 rfl (lv_at hl 0 rfl) ?_
            refine lv_iconst (v := 0) hx hb dX12_next_73 (by decide) ?_
            refine va_put (D := D) (ci := 12) (v := .int 0) (ty := tyX12 8) (C := RX12) (T := TX12) (N := 42) hx hb hts iT_X12 tyX12 tyX12_ok nmX12 hown hK hP hD hS 0 rfl rfl 8 (by decide) (hts _ tw_6_61) (fun _ h9 => h9) rfl (tyX12_ok 8 (by decide)) rfl rfl (Nat.le_of_ble_eq_true rfl) dX12_next_74 (fun H locs hP hD hS => ?_)
            have hP : va_P D vwCl [(mo, .inr (12, [.int v0, .ref m1, .ref m2, .ref m3, .ref m4, .ref m5, .int v6, .int L0f0x7, .int 0, .int L0f0x7, .int 0, .long 0, .int v12, .int v13, .int v14, .int v15, .ref m16, .ref m17, .ref m18, .ref m19, .ref m20, .ref m21, .ref m22, .ref m23, .int v24, .ref m25, .ref m26, .ref m27, .ref m28, .ref m29, .int v30, .ref m31, .ref m32, .ref m33, .int v34, .int v35, .int v36, .ref m37, .ref m38, .ref m39, .ref m40, .long v41])), (m5, .inl (k 1, 1000, .inl f5))] H := hP
            have hD : va_D A [(mo, .inr (12, [.int v0, .ref m1, .ref m2, .ref m3, .ref m4, .ref m5, .int v6, .int L0f0x7, .int 0, .int L0f0x7, .int 0, .long 0, .int v12, .int v13, .int v14, .int v15, .ref m16, .ref m17, .ref m18, .ref m19, .ref m20, .ref m21, .ref m22, .ref m23, .int v24, .ref m25, .ref m26, .ref m27, .ref m28, .ref m29, .int v30, .ref m31, .ref m32, .ref m33, .int v34, .int v35, .int v36, .ref m37, .ref m38, .ref m39, .ref m40, .long v41])), (m5, .inl (k 1, 1000, .inl f5))] := hD
            refine lv_goto (tgt := 307) hx hb dX12_next_77 (by decide) ?_
            obtain ⟨hP9, hD9⟩ := sub2 hP hD (ws' := [(mo, .inr (12, [.int v0, .ref m1, .ref m2, .ref m3, .ref m4, .ref m5, .int v6, .int L0f0x7, .int 0, .int L0f0x7, .int 0, .long 0, .int v12, .int v13, .int v14, .int v15, .ref m16, .ref m17, .ref m18, .ref m19, .ref m20, .ref m21, .ref m22, .ref m23, .int v24, .ref m25, .ref m26, .ref m27, .ref m28, .ref m29, .int v30, .ref m31, .ref m32, .ref m33, .int v34, .int v35, .int v36, .ref m37, .ref m38, .ref m39, .ref m40, .long v41])), (m5, .inl (k 1, 1000, .inl f5))]) [0, 1] (by decide +kernel) rfl
            exact W.vret hx hb hr (fun tZ ht hW => ⟨⟨(L0f0x7, 0, L0f0x7, 0, 0), rfl, ⟨(show 0 ≤ L0f0x7.toInt ∧ L0f0x7.toInt ≤ 1000 from by omega), (show 0 ≤ 0 ∧ 0 ≤ 4 from by omega), (show 0 ≤ L0f0x7.toInt ∧ L0f0x7.toInt ≤ 1000 from by omega), (show v7.toInt ≤ L0f0x7.toInt ∧ L0f0x7.toInt ≤ v6.toInt from by omega), (show 0 = 0 ∨ v7.toInt < L0f0x7.toInt from by omega)⟩, by rw [ht]; exact hP9, va_K.moved hW.alike hK, hD9⟩, hS.F ht⟩) hS.2.2 dX12_next_307
        · skip
          have zh_193 : ¬ r_188.toInt = 0 := z_ne h_193
          refine lv_aload_n hx hb dX12_next_30 rfl (lv_at hl 0 rfl) ?_
          refine lv_dup hx hb dX12_next_31 rfl ?_
          refine va_get (D := D) (ci := 12) (v := .int L0f0x7) (C := RX12) (T := TX12) (N := 42) hx hb hts iT_X12 hown hK hP 0 rfl rfl 7 (by decide) (hts _ tw_6_60) (fun _ h9 => h9) rfl dX12_next_32 ?_
          refine lv_iconst (v := 1) hx hb dX12_next_35 (by decide) ?_
          refine lv_iadd hx hb dX12_next_36 ?_
          refine lv_topi (fun x_268 ex_268 => ?_)
          have zx_268 : x_268.toInt = L0f0x7.toInt + 1 := by rw [ex_268]; exact z_add rfl rfl (by omega) (by omega)
          refine va_put (D := D) (ci := 12) (v := .int x_268) (ty := tyX12 7) (C := RX12) (T := TX12) (N := 42) hx hb hts iT_X12 tyX12 tyX12_ok nmX12 hown hK hP hD hS 0 rfl rfl 7 (by decide) (hts _ tw_6_60) (fun _ h9 => h9) rfl (tyX12_ok 7 (by decide)) rfl rfl (Nat.le_of_ble_eq_true rfl) dX12_next_37 (fun H locs hP hD hS => ?_)
          have hP : va_P D vwCl [(mo, .inr (12, [.int v0, .ref m1, .ref m2, .ref m3, .ref m4, .ref m5, .int v6, .int x_268, .int v8, .int v9, .int v10, .long v11, .int v12, .int v13, .int v14, .int v15, .ref m16, .ref m17, .ref m18, .ref m19, .ref m20, .ref m21, .ref m22, .ref m23, .int v24, .ref m25, .ref m26, .ref m27, .ref m28, .ref m29, .int v30, .ref m31, .ref m32, .ref m33, .int v34, .int v35, .int v36, .ref m37, .ref m38, .ref m39, .ref m40, .long v41])), (m5, .inl (k 1, 1000, .inl f5))] H := hP
          have hD : va_D A [(mo, .inr (12, [.int v0, .ref m1, .ref m2, .ref m3, .ref m4, .ref m5, .int v6, .int x_268, .int v8, .int v9, .int v10, .long v11, .int v12, .int v13, .int v14, .int v15, .ref m16, .ref m17, .ref m18, .ref m19, .ref m20, .ref m21, .ref m22, .ref m23, .int v24, .ref m25, .ref m26, .ref m27, .ref m28, .ref m29, .int v30, .ref m31, .ref m32, .ref m33, .int v34, .int v35, .int v36, .ref m37, .ref m38, .ref m39, .ref m40, .long v41])), (m5, .inl (k 1, 1000, .inl f5))] := hD
          refine lv_goto (tgt := 0) hx hb dX12_next_40 (by decide) ?_
          exact ih_179 _ _ _ _ (by omega) ⟨x_268, rfl, (show 1 ≤ x_268.toInt ∧ x_268.toInt ≤ 1000 from by omega), (show x_268.toInt ≤ v6.toInt from by omega), (show v7.toInt ≤ x_268.toInt from by omega), hP.sub (ws' := [(mo, .inr (12, [.int v0, .ref m1, .ref m2, .ref m3, .ref m4, .ref m5, .int v6, .int x_268, .int v8, .int v9, .int v10, .long v11, .int v12, .int v13, .int v14, .int v15, .ref m16, .ref m17, .ref m18, .ref m19, .ref m20, .ref m21, .ref m22, .ref m23, .int v24, .ref m25, .ref m26, .ref m27, .ref m28, .ref m29, .int v30, .ref m31, .ref m32, .ref m33, .int v34, .int v35, .int v36, .ref m37, .ref m38, .ref m39, .ref m40, .long v41])), (m5, .inl (k 1, 1000, .inl f5))]) [0, 1] rfl, hD.sub (ws' := [(mo, .inr (12, [.int v0, .ref m1, .ref m2, .ref m3, .ref m4, .ref m5, .int v6, .int x_268, .int v8, .int v9, .int v10, .long v11, .int v12, .int v13, .int v14, .int v15, .ref m16, .ref m17, .ref m18, .ref m19, .ref m20, .ref m21, .ref m22, .ref m23, .int v24, .ref m25, .ref m26, .ref m27, .ref m28, .ref m29, .int v30, .ref m31, .ref m32, .ref m33, .int v34, .int v35, .int v36, .ref m37, .ref m38, .ref m39, .ref m40, .long v41])), (m5, .inl (k 1, 1000, .inl f5))]) [0, 1] (by decide +kernel) rfl, hS, lv_sub hl [0] rfl⟩
set_option maxHeartbeats 4000000 in
set_option maxRecDepth 100000 in
theorem c_X12_isGood (l : Launch) (D : va_G) (k : Nat → ClassId) (mo : Nat) (v0 : Int32) (m1 : Nat) (m2 : Nat) (m3 : Nat) (m4 : Nat) (m5 : Nat) (v6 : Int32) (v7 : Int32) (v8 : Int32) (v9 : Int32) (v10 : Int32) (v11 : Int64) (v12 : Int32) (v13 : Int32) (v14 : Int32) (v15 : Int32) (m16 : Nat) (m17 : Nat) (m18 : Nat) (m19 : Nat) (m20 : Nat) (m21 : Nat) (m22 : Nat) (m23 : Nat) (v24 : Int32) (m25 : Nat) (m26 : Nat) (m27 : Nat) (m28 : Nat) (m29 : Nat) (v30 : Int32) (m31 : Nat) (m32 : Nat) (m33 : Nat) (v34 : Int32) (v35 : Int32) (v36 : Int32) (m37 : Nat) (m38 : Nat) (m39 : Nat) (m40 : Nat) (v41 : Int64) (sz : Nat) (h_v6 : 0 ≤ v6.toInt ∧ v6.toInt ≤ 1000) (h_v24 : 0 ≤ v24.toInt ∧ v24.toInt ≤ 1023) : Met l yX12_isGood (ww yX12_isGood cX12_isGood 1 (some .boolean)) ({ frames := 0, cells := 0, slots := 0, locals := 0 }) (Pre0 D k [(mo, .inr (12, [.int v0, .ref m1, .ref m2, .ref m3, .ref m4, .ref m5, .int v6, .int v7, .int v8, .int v9, .int v10, .long v11, .int v12, .int v13, .int v14, .int v15, .ref m16, .ref m17, .ref m18, .ref m19, .ref m20, .ref m21, .ref m22, .ref m23, .int v24, .ref m25, .ref m26, .ref m27, .ref m28, .ref m29, .int v30, .ref m31, .ref m32, .ref m33, .int v34, .int v35, .int v36, .ref m37, .ref m38, .ref m39, .ref m40, .long v41]))] sz [.ref mo]) (va_Qi (fun (r : Int32) (_ : Unit) => (0 ≤ r.toInt ∧ r.toInt ≤ 1) ∧ ((r.toInt = 1 ∧ v12.toInt = 0) ∨ (r.toInt = 0 ∧ ¬ v12.toInt = 0))) (fun (_ : Unit) tZ => Bw D k (va_A [(mo, .inr (12, [.int v0, .ref m1, .ref m2, .ref m3, .ref m4, .ref m5, .int v6, .int v7, .int v8, .int v9, .int v10, .long v11, .int v12, .int v13, .int v14, .int v15, .ref m16, .ref m17, .ref m18, .ref m19, .ref m20, .ref m21, .ref m22, .ref m23, .int v24, .ref m25, .ref m26, .ref m27, .ref m28, .ref m29, .int v30, .ref m31, .ref m32, .ref m33, .int v34, .int v35, .int v36, .ref m37, .ref m38, .ref m39, .ref m40, .long v41]))] sz) [(mo, .inr (12, [.int v0, .ref m1, .ref m2, .ref m3, .ref m4, .ref m5, .int v6, .int v7, .int v8, .int v9, .int v10, .long v11, .int v12, .int v13, .int v14, .int v15, .ref m16, .ref m17, .ref m18, .ref m19, .ref m20, .ref m21, .ref m22, .ref m23, .int v24, .ref m25, .ref m26, .ref m27, .ref m28, .ref m29, .int v30, .ref m31, .ref m32, .ref m33, .int v34, .int v35, .int v36, .ref m37, .ref m38, .ref m39, .ref m40, .long v41]))] tZ) (va_A [(mo, .inr (12, [.int v0, .ref m1, .ref m2, .ref m3, .ref m4, .ref m5, .int v6, .int v7, .int v8, .int v9, .int v10, .long v11, .int v12, .int v13, .int v14, .int v15, .ref m16, .ref m17, .ref m18, .ref m19, .ref m20, .ref m21, .ref m22, .ref m23, .int v24, .ref m25, .ref m26, .ref m27, .ref m28, .ref m29, .int v30, .ref m31, .ref m32, .ref m33, .int v34, .int v35, .int v36, .ref m37, .ref m38, .ref m39, .ref m40, .long v41]))] sz)) 0 0 (va_A [(mo, .inr (12, [.int v0, .ref m1, .ref m2, .ref m3, .ref m4, .ref m5, .int v6, .int v7, .int v8, .int v9, .int v10, .long v11, .int v12, .int v13, .int v14, .int v15, .ref m16, .ref m17, .ref m18, .ref m19, .ref m20, .ref m21, .ref m22, .ref m23, .int v24, .ref m25, .ref m26, .ref m27, .ref m28, .ref m29, .int v30, .ref m31, .ref m32, .ref m33, .int v34, .int v35, .int v36, .ref m37, .ref m38, .ref m39, .ref m40, .long v41]))] sz) := by
  refine Met.ofW (cc := cX12_isGood) (maxL := 1) (ret := (some .boolean)) (by decide +kernel) rfl ?_
  intro p e s m args below meth c s₁ B hml hv
  obtain ⟨rfl, hsz, hP, hK, hD0, hN⟩ := hv
  have hx := B.exec
  have hb := B.bytes
  have hr := B.returns
  have hts : ∀ w ∈ TT, w.before _ s = true := fun w h => atoms_spec (ws := ww yX12_isGood cX12_isGood 1 (some .boolean)) B.pre w (List.mem_cons_of_mem _ h)
  have hown : s.vm.findClass RX12 = some m.cls := findClass_of_methodNamed B.named
  have hlocks := B.notSynchronized
  subst hsz
  have hD := hD0.self (sz := s.heap.size)
  generalize hAe : va_A [(mo, .inr (12, [.int v0, .ref m1, .ref m2, .ref m3, .ref m4, .ref m5, .int v6, .int v7, .int v8, .int v9, .int v10, .long v11, .int v12, .int v13, .int v14, .int v15, .ref m16, .ref m17, .ref m18, .ref m19, .ref m20, .ref m21, .ref m22, .ref m23, .int v24, .ref m25, .ref m26, .ref m27, .ref m28, .ref m29, .int v30, .ref m31, .ref m32, .ref m33, .int v34, .int v35, .int v36, .ref m37, .ref m38, .ref m39, .ref m40, .long v41]))] s.heap.size = A at hD ⊢
  have hA : ∀ q : Nat, s.heap.size ≤ q → A q := fun q h => by rw [← hAe]; exact Or.inr h
  have hS : va_S A s.heap s.heap [] := va_S.rf
  have hl := lv_entry ([.ref mo]) (n := 1) (Nat.le_of_ble_eq_true rfl)
  rw [lg_entry_eq]
  generalize (lg_sl ([.ref mo]) ++ List.replicate (1 - (lg_sl ([.ref mo])).length) Slot.unset).toArray = ls at hl ⊢
  have hl : lv_has ls 1 [(0, .ref mo)] := hl
  refine lv_aload_n hx hb dX12_isGood_0 rfl (lv_at hl 0 rfl) ?_
  refine va_get (D := D) (ci := 12) (v := .int v12) (C := RX12) (T := TX12) (N := 42) hx hb hts iT_X12 hown hK hP 0 rfl rfl 12 (by decide) (hts _ tw_6_65) (fun _ h9 => h9) rfl dX12_isGood_1 ?_
  refine lv_if_ne (tgt := 11) hx hb dX12_isGood_4 (by decide) (fun h_1 => ?_) (fun h_1 => ?_)
  · skip
    have zh_1 : ¬ v12.toInt = 0 := z_ne h_1
    refine lv_iconst (v := 0) hx hb dX12_isGood_11 (by decide) ?_
    obtain ⟨hP9, hD9⟩ := sub2 hP hD (ws' := [(mo, .inr (12, [.int v0, .ref m1, .ref m2, .ref m3, .ref m4, .ref m5, .int v6, .int v7, .int v8, .int v9, .int v10, .long v11, .int v12, .int v13, .int v14, .int v15, .ref m16, .ref m17, .ref m18, .ref m19, .ref m20, .ref m21, .ref m22, .ref m23, .int v24, .ref m25, .ref m26, .ref m27, .ref m28, .ref m29, .int v30, .ref m31, .ref m32, .ref m33, .int v34, .int v35, .int v36, .ref m37, .ref m38, .ref m39, .ref m40, .long v41]))]) [0] (by decide +kernel) rfl
    exact W.zret (v := 0) hx hb hr (by decide) (fun tZ ht hW => ⟨⟨0, (), rfl, ⟨(show 0 ≤ 0 ∧ 0 ≤ 1 from by omega), (show (0 = 1 ∧ v12.toInt = 0) ∨ (0 = 0 ∧ ¬ v12.toInt = 0) from by omega)⟩, by rw [ht]; exact hP9, va_K.moved hW.alike hK, hD9⟩, hS.F ht⟩) hS.2.2 dX12_isGood_12
  · skip
    have zh_1 : v12.toInt = 0 := z_eq h_1
    refine lv_iconst (v := 1) hx hb dX12_isGood_7 (by decide) ?_
    refine lv_goto (tgt := 12) hx hb dX12_isGood_8 (by decide) ?_
    obtain ⟨hP9, hD9⟩ := sub2 hP hD (ws' := [(mo, .inr (12, [.int v0, .ref m1, .ref m2, .ref m3, .ref m4, .ref m5, .int v6, .int v7, .int v8, .int v9, .int v10, .long v11, .int v12, .int v13, .int v14, .int v15, .ref m16, .ref m17, .ref m18, .ref m19, .ref m20, .ref m21, .ref m22, .ref m23, .int v24, .ref m25, .ref m26, .ref m27, .ref m28, .ref m29, .int v30, .ref m31, .ref m32, .ref m33, .int v34, .int v35, .int v36, .ref m37, .ref m38, .ref m39, .ref m40, .long v41]))]) [0] (by decide +kernel) rfl
    exact W.zret (v := 1) hx hb hr (by decide) (fun tZ ht hW => ⟨⟨1, (), rfl, ⟨(show 0 ≤ 1 ∧ 1 ≤ 1 from by omega), (show (1 = 1 ∧ v12.toInt = 0) ∨ (1 = 0 ∧ ¬ v12.toInt = 0) from by omega)⟩, by rw [ht]; exact hP9, va_K.moved hW.alike hK, hD9⟩, hS.F ht⟩) hS.2.2 dX12_isGood_12
set_option maxHeartbeats 4000000 in
set_option maxRecDepth 100000 in
theorem c_X12_fails (l : Launch) (D : va_G) (k : Nat → ClassId) (mo : Nat) (p0 : Int32) (v0 : Int32) (m1 : Nat) (m2 : Nat) (m3 : Nat) (m4 : Nat) (m5 : Nat) (v6 : Int32) (v7 : Int32) (v8 : Int32) (v9 : Int32) (v10 : Int32) (v11 : Int64) (v12 : Int32) (v13 : Int32) (v14 : Int32) (v15 : Int32) (m16 : Nat) (m17 : Nat) (m18 : Nat) (m19 : Nat) (m20 : Nat) (m21 : Nat) (m22 : Nat) (m23 : Nat) (v24 : Int32) (m25 : Nat) (m26 : Nat) (m27 : Nat) (m28 : Nat) (m29 : Nat) (v30 : Int32) (m31 : Nat) (m32 : Nat) (m33 : Nat) (v34 : Int32) (v35 : Int32) (v36 : Int32) (m37 : Nat) (m38 : Nat) (m39 : Nat) (m40 : Nat) (v41 : Int64) (sz : Nat) (h_v6 : 0 ≤ v6.toInt ∧ v6.toInt ≤ 1000) (h_v24 : 0 ≤ v24.toInt ∧ v24.toInt ≤ 1023) : Met l yX12_fails (ww yX12_fails cX12_fails 2 none) ({ frames := 0, cells := 0, slots := 0, locals := 0 }) (Pre0 D k [(mo, .inr (12, [.int v0, .ref m1, .ref m2, .ref m3, .ref m4, .ref m5, .int v6, .int v7, .int v8, .int v9, .int v10, .long v11, .int v12, .int v13, .int v14, .int v15, .ref m16, .ref m17, .ref m18, .ref m19, .ref m20, .ref m21, .ref m22, .ref m23, .int v24, .ref m25, .ref m26, .ref m27, .ref m28, .ref m29, .int v30, .ref m31, .ref m32, .ref m33, .int v34, .int v35, .int v36, .ref m37, .ref m38, .ref m39, .ref m40, .long v41]))] sz [.ref mo, .int p0]) (va_Qv (fun (u : Int32 × Int32) => match u with | (v12z, v13z) => ((v12.toInt = 0 ∧ v12z.toInt = p0.toInt) ∨ (¬ v12.toInt = 0 ∧ v12z.toInt = v12.toInt))) (fun (u : Int32 × Int32) tZ => match u with | (v12z, v13z) => Bw D k (va_A [(mo, .inr (12, [.int v0, .ref m1, .ref m2, .ref m3, .ref m4, .ref m5, .int v6, .int v7, .int v8, .int v9, .int v10, .long v11, .int v12, .int v13, .int v14, .int v15, .ref m16, .ref m17, .ref m18, .ref m19, .ref m20, .ref m21, .ref m22, .ref m23, .int v24, .ref m25, .ref m26, .ref m27, .ref m28, .ref m29, .int v30, .ref m31, .ref m32, .ref m33, .int v34, .int v35, .int v36, .ref m37, .ref m38, .ref m39, .ref m40, .long v41]))] sz) [(mo, .inr (12, [.int v0, .ref m1, .ref m2, .ref m3, .ref m4, .ref m5, .int v6, .int v7, .int v8, .int v9, .int v10, .long v11, .int v12z, .int v13z, .int v14, .int v15, .ref m16, .ref m17, .ref m18, .ref m19, .ref m20, .ref m21, .ref m22, .ref m23, .int v24, .ref m25, .ref m26, .ref m27, .ref m28, .ref m29, .int v30, .ref m31, .ref m32, .ref m33, .int v34, .int v35, .int v36, .ref m37, .ref m38, .ref m39, .ref m40, .long v41]))] tZ) (va_A [(mo, .inr (12, [.int v0, .ref m1, .ref m2, .ref m3, .ref m4, .ref m5, .int v6, .int v7, .int v8, .int v9, .int v10, .long v11, .int v12, .int v13, .int v14, .int v15, .ref m16, .ref m17, .ref m18, .ref m19, .ref m20, .ref m21, .ref m22, .ref m23, .int v24, .ref m25, .ref m26, .ref m27, .ref m28, .ref m29, .int v30, .ref m31, .ref m32, .ref m33, .int v34, .int v35, .int v36, .ref m37, .ref m38, .ref m39, .ref m40, .long v41]))] sz)) 0 0 (va_A [(mo, .inr (12, [.int v0, .ref m1, .ref m2, .ref m3, .ref m4, .ref m5, .int v6, .int v7, .int v8, .int v9, .int v10, .long v11, .int v12, .int v13, .int v14, .int v15, .ref m16, .ref m17, .ref m18, .ref m19, .ref m20, .ref m21, .ref m22, .ref m23, .int v24, .ref m25, .ref m26, .ref m27, .ref m28, .ref m29, .int v30, .ref m31, .ref m32, .ref m33, .int v34, .int v35, .int v36, .ref m37, .ref m38, .ref m39, .ref m40, .long v41]))] sz) := by
  refine Met.ofW (cc := cX12_fails) (maxL := 2) (ret := none) (by decide +kernel) rfl ?_
  intro p e s m args below meth c s₁ B hml hv
  obtain ⟨rfl, hsz, hP, hK, hD0, hN⟩ := hv
  have hx := B.exec
  have hb := B.bytes
  have hr := B.returns
  have hts : ∀ w ∈ TT, w.before _ s = true := fun w h => atoms_spec (ws := ww yX12_fails cX12_fails 2 none) B.pre w (List.mem_cons_of_mem _ h)
  have hown : s.vm.findClass RX12 = some m.cls := findClass_of_methodNamed B.named
  have hlocks := B.notSynchronized
  subst hsz
  have hD := hD0.self (sz := s.heap.size)
  generalize hAe : va_A [(mo, .inr (12, [.int v0, .ref m1, .ref m2, .ref m3, .ref m4, .ref m5, .int v6, .int v7, .int v8, .int v9, .int v10, .long v11, .int v12, .int v13, .int v14, .int v15, .ref m16, .ref m17, .ref m18, .ref m19, .ref m20, .ref m21, .ref m22, .ref m23, .int v24, .ref m25, .ref m26, .ref m27, .ref m28, .ref m29, .int v30, .ref m31, .ref m32, .ref m33, .int v34, .int v35, .int v36, .ref m37, .ref m38, .ref m39, .ref m40, .long v41]))] s.heap.size = A at hD ⊢
  have hA : ∀ q : Nat, s.heap.size ≤ q → A q := fun q h => by rw [← hAe]; exact Or.inr h
  have hS : va_S A s.heap s.heap [] := va_S.rf
  have hl := lv_entry ([.ref mo, .int p0]) (n := 2) (Nat.le_of_ble_eq_true rfl)
  rw [lg_entry_eq]
  generalize (lg_sl ([.ref mo, .int p0]) ++ List.replicate (2 - (lg_sl ([.ref mo, .int p0])).length) Slot.unset).toArray = ls at hl ⊢
  have hl : lv_has ls 2 [(0, .ref mo), (1, .int p0)] := hl
  refine lv_aload_n hx hb dX12_fails_0 rfl (lv_at hl 0 rfl) ?_
  refine va_get (D := D) (ci := 12) (v := .int v12) (C := RX12) (T := TX12) (N := 42) hx hb hts iT_X12 hown hK hP 0 rfl rfl 12 (by decide) (hts _ tw_6_65) (fun _ h9 => h9) rfl dX12_fails_1 ?_
  refine lv_if_eq (tgt := 8) hx hb dX12_fails_4 (by decide) (fun h_1 => ?_) (fun h_1 => ?_)
  · skip
    have zh_1 : v12.toInt = 0 := z_eq h_1
    refine lv_aload_n hx hb dX12_fails_8 rfl (lv_at hl 0 rfl) ?_
    refine lv_iload_n hx hb dX12_fails_9 rfl (lv_at hl 1 rfl) ?_
    refine va_put (D := D) (ci := 12) (v := .int p0) (ty := tyX12 12) (C := RX12) (T := TX12) (N := 42) hx hb hts iT_X12 tyX12 tyX12_ok nmX12 hown hK hP hD hS 0 rfl rfl 12 (by decide) (hts _ tw_6_65) (fun _ h9 => h9) rfl (tyX12_ok 12 (by decide)) rfl rfl (Nat.le_of_ble_eq_true rfl) dX12_fails_10 (fun H locs hP hD hS => ?_)
    have hP : va_P D vwCl [(mo, .inr (12, [.int v0, .ref m1, .ref m2, .ref m3, .ref m4, .ref m5, .int v6, .int v7, .int v8, .int v9, .int v10, .long v11, .int p0, .int v13, .int v14, .int v15, .ref m16, .ref m17, .ref m18, .ref m19, .ref m20, .ref m21, .ref m22, .ref m23, .int v24, .ref m25, .ref m26, .ref m27, .ref m28, .ref m29, .int v30, .ref m31, .ref m32, .ref m33, .int v34, .int v35, .int v36, .ref m37, .ref m38, .ref m39, .ref m40, .long v41]))] H := hP
    have hD : va_D A [(mo, .inr (12, [.int v0, .ref m1, .ref m2, .ref m3, .ref m4, .ref m5, .int v6, .int v7, .int v8, .int v9, .int v10, .long v11, .int p0, .int v13, .int v14, .int v15, .ref m16, .ref m17, .ref m18, .ref m19, .ref m20, .ref m21, .ref m22, .ref m23, .int v24, .ref m25, .ref m26, .ref m27, .ref m28, .ref m29, .int v30, .ref m31, .ref m32, .ref m33, .int v34, .int v35, .int v36, .ref m37, .ref m38, .ref m39, .ref m40, .long v41]))] := hD
    refine lv_aload_n hx hb dX12_fails_13 rfl (lv_at hl 0 rfl) ?_
    refine lv_aload_n hx hb dX12_fails_14 rfl (lv_at hl 0 rfl) ?_
    refine va_get (D := D) (ci := 12) (v := .int v9) (C := RX12) (T := TX12) (N := 42) hx hb hts iT_X12 hown hK hP 0 rfl rfl 9 (by decide) (hts _ tw_6_62) (fun _ h9 => h9) rfl dX12_fails_15 ?_
    refine va_put (D := D) (ci := 12) (v := .int v9) (ty := tyX12 13) (C := RX12) (T := TX12) (N := 42) hx hb hts iT_X12 tyX12 tyX12_ok nmX12 hown hK hP hD hS 0 rfl rfl 13 (by decide) (hts _ tw_6_66) (fun _ h9 => h9) rfl (tyX12_ok 13 (by decide)) rfl rfl (Nat.le_of_ble_eq_true rfl) dX12_fails_18 (fun H locs hP hD hS => ?_)
    have hP : va_P D vwCl [(mo, .inr (12, [.int v0, .ref m1, .ref m2, .ref m3, .ref m4, .ref m5, .int v6, .int v7, .int v8, .int v9, .int v10, .long v11, .int p0, .int v9, .int v14, .int v15, .ref m16, .ref m17, .ref m18, .ref m19, .ref m20, .ref m21, .ref m22, .ref m23, .int v24, .ref m25, .ref m26, .ref m27, .ref m28, .ref m29, .int v30, .ref m31, .ref m32, .ref m33, .int v34, .int v35, .int v36, .ref m37, .ref m38, .ref m39, .ref m40, .long v41]))] H := hP
    have hD : va_D A [(mo, .inr (12, [.int v0, .ref m1, .ref m2, .ref m3, .ref m4, .ref m5, .int v6, .int v7, .int v8, .int v9, .int v10, .long v11, .int p0, .int v9, .int v14, .int v15, .ref m16, .ref m17, .ref m18, .ref m19, .ref m20, .ref m21, .ref m22, .ref m23, .int v24, .ref m25, .ref m26, .ref m27, .ref m28, .ref m29, .int v30, .ref m31, .ref m32, .ref m33, .int v34, .int v35, .int v36, .ref m37, .ref m38, .ref m39, .ref m40, .long v41]))] := hD
    obtain ⟨hP9, hD9⟩ := sub2 hP hD (ws' := [(mo, .inr (12, [.int v0, .ref m1, .ref m2, .ref m3, .ref m4, .ref m5, .int v6, .int v7, .int v8, .int v9, .int v10, .long v11, .int p0, .int v9, .int v14, .int v15, .ref m16, .ref m17, .ref m18, .ref m19, .ref m20, .ref m21, .ref m22, .ref m23, .int v24, .ref m25, .ref m26, .ref m27, .ref m28, .ref m29, .int v30, .ref m31, .ref m32, .ref m33, .int v34, .int v35, .int v36, .ref m37, .ref m38, .ref m39, .ref m40, .long v41]))]) [0] (by decide +kernel) rfl
    exact W.vret hx hb hr (fun tZ ht hW => ⟨⟨(p0, v9), rfl, (show (v12.toInt = 0 ∧ p0.toInt = p0.toInt) ∨ (¬ v12.toInt = 0 ∧ p0.toInt = v12.toInt) from by omega), by rw [ht]; exact hP9, va_K.moved hW.alike hK, hD9⟩, hS.F ht⟩) hS.2.2 dX12_fails_21
  · skip
    have zh_1 : ¬ v12.toInt = 0 := z_ne h_1
    obtain ⟨hP9, hD9⟩ := sub2 hP hD (ws' := [(mo, .inr (12, [.int v0, .ref m1, .ref m2, .ref m3, .ref m4, .ref m5, .int v6, .int v7, .int v8, .int v9, .int v10, .long v11, .int v12, .int v13, .int v14, .int v15, .ref m16, .ref m17, .ref m18, .ref m19, .ref m20, .ref m21, .ref m22, .ref m23, .int v24, .ref m25, .ref m26, .ref m27, .ref m28, .ref m29, .int v30, .ref m31, .ref m32, .ref m33, .int v34, .int v35, .int v36, .ref m37, .ref m38, .ref m39, .ref m40, .long v41]))]) [0] (by decide +kernel) rfl
    exact W.vret hx hb hr (fun tZ ht hW => ⟨⟨(v12, v13), rfl, (show (v12.toInt = 0 ∧ v12.toInt = p0.toInt) ∨ (¬ v12.toInt = 0 ∧ v12.toInt = v12.toInt) from by omega), by rw [ht]; exact hP9, va_K.moved hW.alike hK, hD9⟩, hS.F ht⟩) hS.2.2 dX12_fails_7
set_option maxHeartbeats 4000000 in
set_option maxRecDepth 100000 in
theorem c_X12_is (l : Launch) (D : va_G) (k : Nat → ClassId) (mo : Nat) (p0 : Int64) (v0 : Int32) (m1 : Nat) (m2 : Nat) (m3 : Nat) (m4 : Nat) (m5 : Nat) (v6 : Int32) (v7 : Int32) (v8 : Int32) (v9 : Int32) (v10 : Int32) (v11 : Int64) (v12 : Int32) (v13 : Int32) (v14 : Int32) (v15 : Int32) (m16 : Nat) (m17 : Nat) (m18 : Nat) (m19 : Nat) (m20 : Nat) (m21 : Nat) (m22 : Nat) (m23 : Nat) (v24 : Int32) (m25 : Nat) (m26 : Nat) (m27 : Nat) (m28 : Nat) (m29 : Nat) (v30 : Int32) (m31 : Nat) (m32 : Nat) (m33 : Nat) (v34 : Int32) (v35 : Int32) (v36 : Int32) (m37 : Nat) (m38 : Nat) (m39 : Nat) (m40 : Nat) (v41 : Int64) (sz : Nat) (h_v6 : 0 ≤ v6.toInt ∧ v6.toInt ≤ 1000) (h_v24 : 0 ≤ v24.toInt ∧ v24.toInt ≤ 1023) : Met l yX12_is (ww yX12_is cX12_is 3 (some .boolean)) ({ frames := 0, cells := 0, slots := 0, locals := 0 }) (Pre0 D k [(mo, .inr (12, [.int v0, .ref m1, .ref m2, .ref m3, .ref m4, .ref m5, .int v6, .int v7, .int v8, .int v9, .int v10, .long v11, .int v12, .int v13, .int v14, .int v15, .ref m16, .ref m17, .ref m18, .ref m19, .ref m20, .ref m21, .ref m22, .ref m23, .int v24, .ref m25, .ref m26, .ref m27, .ref m28, .ref m29, .int v30, .ref m31, .ref m32, .ref m33, .int v34, .int v35, .int v36, .ref m37, .ref m38, .ref m39, .ref m40, .long v41]))] sz [.ref mo, .long p0]) (va_Qi (fun (r : Int32) (_ : Unit) => (0 ≤ r.toInt ∧ r.toInt ≤ 1)) (fun (_ : Unit) tZ => Bw D k (va_A [(mo, .inr (12, [.int v0, .ref m1, .ref m2, .ref m3, .ref m4, .ref m5, .int v6, .int v7, .int v8, .int v9, .int v10, .long v11, .int v12, .int v13, .int v14, .int v15, .ref m16, .ref m17, .ref m18, .ref m19, .ref m20, .ref m21, .ref m22, .ref m23, .int v24, .ref m25, .ref m26, .ref m27, .ref m28, .ref m29, .int v30, .ref m31, .ref m32, .ref m33, .int v34, .int v35, .int v36, .ref m37, .ref m38, .ref m39, .ref m40, .long v41]))] sz) [(mo, .inr (12, [.int v0, .ref m1, .ref m2, .ref m3, .ref m4, .ref m5, .int v6, .int v7, .int v8, .int v9, .int v10, .long v11, .int v12, .int v13, .int v14, .int v15, .ref m16, .ref m17, .ref m18, .ref m19, .ref m20, .ref m21, .ref m22, .ref m23, .int v24, .ref m25, .ref m26, .ref m27, .ref m28, .ref m29, .int v30, .ref m31, .ref m32, .ref m33, .int v34, .int v35, .int v36, .ref m37, .ref m38, .ref m39, .ref m40, .long v41]))] tZ) (va_A [(mo, .inr (12, [.int v0, .ref m1, .ref m2, .ref m3, .ref m4, .ref m5, .int v6, .int v7, .int v8, .int v9, .int v10, .long v11, .int v12, .int v13, .int v14, .int v15, .ref m16, .ref m17, .ref m18, .ref m19, .ref m20, .ref m21, .ref m22, .ref m23, .int v24, .ref m25, .ref m26, .ref m27, .ref m28, .ref m29, .int v30, .ref m31, .ref m32, .ref m33, .int v34, .int v35, .int v36, .ref m37, .ref m38, .ref m39, .ref m40, .long v41]))] sz)) 0 0 (va_A [(mo, .inr (12, [.int v0, .ref m1, .ref m2, .ref m3, .ref m4, .ref m5, .int v6, .int v7, .int v8, .int v9, .int v10, .long v11, .int v12, .int v13, .int v14, .int v15, .ref m16, .ref m17, .ref m18, .ref m19, .ref m20, .ref m21, .ref m22, .ref m23, .int v24, .ref m25, .ref m26, .ref m27, .ref m28, .ref m29, .int v30, .ref m31, .ref m32, .ref m33, .int v34, .int v35, .int v36, .ref m37, .ref m38, .ref m39, .ref m40, .long v41]))] sz) := by
  refine Met.ofW (cc := cX12_is) (maxL := 3) (ret := (some .boolean)) (by decide +kernel) rfl ?_
  intro p e s m args below meth c s₁ B hml hv
  obtain ⟨rfl, hsz, hP, hK, hD0, hN⟩ := hv
  have hx := B.exec
  have hb := B.bytes
  have hr := B.returns
  have hts : ∀ w ∈ TT, w.before _ s = true := fun w h => atoms_spec (ws := ww yX12_is cX12_is 3 (some .boolean)) B.pre w (List.mem_cons_of_mem _ h)
  have hown : s.vm.findClass RX12 = some m.cls := findClass_of_methodNamed B.named
  have hlocks := B.notSynchronized
  subst hsz
  have hD := hD0.self (sz := s.heap.size)
  generalize hAe : va_A [(mo, .inr (12, [.int v0, .ref m1, .ref m2, .ref m3, .ref m4, .ref m5, .int v6, .int v7, .int v8, .int v9, .int v10, .long v11, .int v12, .int v13, .int v14, .int v15, .ref m16, .ref m17, .ref m18, .ref m19, .ref m20, .ref m21, .ref m22, .ref m23, .int v24, .ref m25, .ref m26, .ref m27, .ref m28, .ref m29, .int v30, .ref m31, .ref m32, .ref m33, .int v34, .int v35, .int v36, .ref m37, .ref m38, .ref m39, .ref m40, .long v41]))] s.heap.size = A at hD ⊢
  have hA : ∀ q : Nat, s.heap.size ≤ q → A q := fun q h => by rw [← hAe]; exact Or.inr h
  have hS : va_S A s.heap s.heap [] := va_S.rf
  have hl := lv_entry ([.ref mo, .long p0]) (n := 3) (Nat.le_of_ble_eq_true rfl)
  rw [lg_entry_eq]
  generalize (lg_sl ([.ref mo, .long p0]) ++ List.replicate (3 - (lg_sl ([.ref mo, .long p0])).length) Slot.unset).toArray = ls at hl ⊢
  have hl : lv_has ls 3 [(0, .ref mo), (1, .long p0)] := hl
  refine lv_aload_n hx hb dX12_is_0 rfl (lv_at hl 0 rfl) ?_
  refine va_get (D := D) (ci := 12) (v := .int v12) (C := RX12) (T := TX12) (N := 42) hx hb hts iT_X12 hown hK hP 0 rfl rfl 12 (by decide) (hts _ tw_6_65) (fun _ h9 => h9) rfl dX12_is_1 ?_
  refine lv_if_ne (tgt := 28) hx hb dX12_is_4 (by decide) (fun h_1 => ?_) (fun h_1 => ?_)
  · skip
    have zh_1 : ¬ v12.toInt = 0 := z_ne h_1
    refine lv_iconst (v := 0) hx hb dX12_is_28 (by decide) ?_
    obtain ⟨hP9, hD9⟩ := sub2 hP hD (ws' := [(mo, .inr (12, [.int v0, .ref m1, .ref m2, .ref m3, .ref m4, .ref m5, .int v6, .int v7, .int v8, .int v9, .int v10, .long v11, .int v12, .int v13, .int v14, .int v15, .ref m16, .ref m17, .ref m18, .ref m19, .ref m20, .ref m21, .ref m22, .ref m23, .int v24, .ref m25, .ref m26, .ref m27, .ref m28, .ref m29, .int v30, .ref m31, .ref m32, .ref m33, .int v34, .int v35, .int v36, .ref m37, .ref m38, .ref m39, .ref m40, .long v41]))]) [0] (by decide +kernel) rfl
    exact W.zret (v := 0) hx hb hr (by decide) (fun tZ ht hW => ⟨⟨0, (), rfl, (show 0 ≤ 0 ∧ 0 ≤ 1 from by omega), by rw [ht]; exact hP9, va_K.moved hW.alike hK, hD9⟩, hS.F ht⟩) hS.2.2 dX12_is_29
  · skip
    have zh_1 : v12.toInt = 0 := z_eq h_1
    refine lv_aload_n hx hb dX12_is_7 rfl (lv_at hl 0 rfl) ?_
    refine va_get (D := D) (ci := 12) (v := .int v8) (C := RX12) (T := TX12) (N := 42) hx hb hts iT_X12 hown hK hP 0 rfl rfl 8 (by decide) (hts _ tw_6_61) (fun _ h9 => h9) rfl dX12_is_8 ?_
    refine lv_iconst (v := 1) hx hb dX12_is_11 (by decide) ?_
    refine lv_icmp_ne (tgt := 28) hx hb dX12_is_12 (by decide) (fun h_2 => ?_) (fun h_2 => ?_)
    · skip
      have zh_2 : ¬ v8.toInt = 1 := z_ne h_2
      refine lv_iconst (v := 0) hx hb dX12_is_28 (by decide) ?_
      obtain ⟨hP9, hD9⟩ := sub2 hP hD (ws' := [(mo, .inr (12, [.int v0, .ref m1, .ref m2, .ref m3, .ref m4, .ref m5, .int v6, .int v7, .int v8, .int v9, .int v10, .long v11, .int v12, .int v13, .int v14, .int v15, .ref m16, .ref m17, .ref m18, .ref m19, .ref m20, .ref m21, .ref m22, .ref m23, .int v24, .ref m25, .ref m26, .ref m27, .ref m28, .ref m29, .int v30, .ref m31, .ref m32, .ref m33, .int v34, .int v35, .int v36, .ref m37, .ref m38, .ref m39, .ref m40, .long v41]))]) [0] (by decide +kernel) rfl
      exact W.zret (v := 0) hx hb hr (by decide) (fun tZ ht hW => ⟨⟨0, (), rfl, (show 0 ≤ 0 ∧ 0 ≤ 1 from by omega), by rw [ht]; exact hP9, va_K.moved hW.alike hK, hD9⟩, hS.F ht⟩) hS.2.2 dX12_is_29
    · skip
      have zh_2 : v8.toInt = 1 := z_eq h_2
      refine lv_aload_n hx hb dX12_is_15 rfl (lv_at hl 0 rfl) ?_
      refine va_get (D := D) (ci := 12) (v := .long v11) (C := RX12) (T := TX12) (N := 42) hx hb hts iT_X12 hown hK hP 0 rfl rfl 11 (by decide) (hts _ tw_6_64) (fun _ h9 => h9) rfl dX12_is_16 ?_
      refine lv_lload_n hx hb dX12_is_19 rfl (lv_at hl 1 rfl) ?_
      refine W.lcmp hx hb dX12_is_20 ?_
      refine lv_if_ne (tgt := 28) hx hb dX12_is_21 (by decide) (fun h_3 => ?_) (fun h_3 => ?_)
      · skip
        have zh_3 : ¬ v11.toInt = p0.toInt := zL_ne h_3 rfl rfl
        refine lv_iconst (v := 0) hx hb dX12_is_28 (by decide) ?_
        obtain ⟨hP9, hD9⟩ := sub2 hP hD (ws' := [(mo, .inr (12, [.int v0, .ref m1, .ref m2, .ref m3, .ref m4, .ref m5, .int v6, .int v7, .int v8, .int v9, .int v10, .long v11, .int v12, .int v13, .int v14, .int v15, .ref m16, .ref m17, .ref m18, .ref m19, .ref m20, .ref m21, .ref m22, .ref m23, .int v24, .ref m25, .ref m26, .ref m27, .ref m28, .ref m29, .int v30, .ref m31, .ref m32, .ref m33, .int v34, .int v35, .int v36, .ref m37, .ref m38, .ref m39, .ref m40, .long v41]))]) [0] (by decide +kernel) rfl
        exact W.zret (v := 0) hx hb hr (by decide) (fun tZ ht hW => ⟨⟨0, (), rfl, (show 0 ≤ 0 ∧ 0 ≤ 1 from by omega), by rw [ht]; exact hP9, va_K.moved hW.alike hK, hD9⟩, hS.F ht⟩) hS.2.2 dX12_is_29
      · skip
        have zh_3 : v11.toInt = p0.toInt := zL_eq h_3 rfl rfl
        refine lv_iconst (v := 1) hx hb dX12_is_24 (by decide) ?_
        refine lv_goto (tgt := 29) hx hb dX12_is_25 (by decide) ?_
        obtain ⟨hP9, hD9⟩ := sub2 hP hD (ws' := [(mo, .inr (12, [.int v0, .ref m1, .ref m2, .ref m3, .ref m4, .ref m5, .int v6, .int v7, .int v8, .int v9, .int v10, .long v11, .int v12, .int v13, .int v14, .int v15, .ref m16, .ref m17, .ref m18, .ref m19, .ref m20, .ref m21, .ref m22, .ref m23, .int v24, .ref m25, .ref m26, .ref m27, .ref m28, .ref m29, .int v30, .ref m31, .ref m32, .ref m33, .int v34, .int v35, .int v36, .ref m37, .ref m38, .ref m39, .ref m40, .long v41]))]) [0] (by decide +kernel) rfl
        exact W.zret (v := 1) hx hb hr (by decide) (fun tZ ht hW => ⟨⟨1, (), rfl, (show 0 ≤ 1 ∧ 1 ≤ 1 from by omega), by rw [ht]; exact hP9, va_K.moved hW.alike hK, hD9⟩, hS.F ht⟩) hS.2.2 dX12_is_29
set_option maxHeartbeats 4000000 in
set_option maxRecDepth 100000 in
theorem c_X12_takes (l : Launch) (D : va_G) (k : Nat → ClassId) (mo : Nat) (p0 : Int64) (v0 : Int32) (m1 : Nat) (m2 : Nat) (m3 : Nat) (m4 : Nat) (m5 : Nat) (v6 : Int32) (v7 : Int32) (v8 : Int32) (v9 : Int32) (v10 : Int32) (v11 : Int64) (v12 : Int32) (v13 : Int32) (v14 : Int32) (v15 : Int32) (m16 : Nat) (m17 : Nat) (m18 : Nat) (m19 : Nat) (m20 : Nat) (m21 : Nat) (m22 : Nat) (m23 : Nat) (v24 : Int32) (m25 : Nat) (m26 : Nat) (m27 : Nat) (m28 : Nat) (m29 : Nat) (v30 : Int32) (m31 : Nat) (m32 : Nat) (m33 : Nat) (v34 : Int32) (v35 : Int32) (v36 : Int32) (m37 : Nat) (m38 : Nat) (m39 : Nat) (m40 : Nat) (v41 : Int64) (f5 : Nat → Int32) (sz : Nat) (h_v6 : 0 ≤ v6.toInt ∧ v6.toInt ≤ 1000) (h_v7 : 0 ≤ v7.toInt ∧ v7.toInt ≤ 1000) (h_v24 : 0 ≤ v24.toInt ∧ v24.toInt ≤ 1023) (hat : v7.toInt ≤ v6.toInt) : Met l yX12_takes (ww yX12_takes cX12_takes 3 (some .boolean)) ({ frames := 2, cells := 0, slots := 0, locals := 44 }) (Pre0 D k [(mo, .inr (12, [.int v0, .ref m1, .ref m2, .ref m3, .ref m4, .ref m5, .int v6, .int v7, .int v8, .int v9, .int v10, .long v11, .int v12, .int v13, .int v14, .int v15, .ref m16, .ref m17, .ref m18, .ref m19, .ref m20, .ref m21, .ref m22, .ref m23, .int v24, .ref m25, .ref m26, .ref m27, .ref m28, .ref m29, .int v30, .ref m31, .ref m32, .ref m33, .int v34, .int v35, .int v36, .ref m37, .ref m38, .ref m39, .ref m40, .long v41])), (m5, .inl (k 1, 1000, .inl f5))] sz [.ref mo, .long p0]) (va_Qi (fun (r : Int32) (u : Int32 × Int32 × Int32 × Int32 × Int64) => match u with | (v7z, v8z, v9z, v10z, v11z) => (0 ≤ r.toInt ∧ r.toInt ≤ 1) ∧ (0 ≤ v7z.toInt ∧ v7z.toInt ≤ 1000) ∧ (v7.toInt ≤ v7z.toInt ∧ v7z.toInt ≤ v6.toInt)) (fun (u : Int32 × Int32 × Int32 × Int32 × Int64) tZ => match u with | (v7z, v8z, v9z, v10z, v11z) => Bw D k (va_A [(mo, .inr (12, [.int v0, .ref m1, .ref m2, .ref m3, .ref m4, .ref m5, .int v6, .int v7, .int v8, .int v9, .int v10, .long v11, .int v12, .int v13, .int v14, .int v15, .ref m16, .ref m17, .ref m18, .ref m19, .ref m20, .ref m21, .ref m22, .ref m23, .int v24, .ref m25, .ref m26, .ref m27, .ref m28, .ref m29, .int v30, .ref m31, .ref m32, .ref m33, .int v34, .int v35, .int v36, .ref m37, .ref m38, .ref m39, .ref m40, .long v41])), (m5, .inl (k 1, 1000, .inl f5))] sz) [(mo, .inr (12, [.int v0, .ref m1, .ref m2, .ref m3, .ref m4, .ref m5, .int v6, .int v7z, .int v8z, .int v9z, .int v10z, .long v11z, .int v12, .int v13, .int v14, .int v15, .ref m16, .ref m17, .ref m18, .ref m19, .ref m20, .ref m21, .ref m22, .ref m23, .int v24, .ref m25, .ref m26, .ref m27, .ref m28, .ref m29, .int v30, .ref m31, .ref m32, .ref m33, .int v34, .int v35, .int v36, .ref m37, .ref m38, .ref m39, .ref m40, .long v41])), (m5, .inl (k 1, 1000, .inl f5))] tZ) (va_A [(mo, .inr (12, [.int v0, .ref m1, .ref m2, .ref m3, .ref m4, .ref m5, .int v6, .int v7, .int v8, .int v9, .int v10, .long v11, .int v12, .int v13, .int v14, .int v15, .ref m16, .ref m17, .ref m18, .ref m19, .ref m20, .ref m21, .ref m22, .ref m23, .int v24, .ref m25, .ref m26, .ref m27, .ref m28, .ref m29, .int v30, .ref m31, .ref m32, .ref m33, .int v34, .int v35, .int v36, .ref m37, .ref m38, .ref m39, .ref m40, .long v41])), (m5, .inl (k 1, 1000, .inl f5))] sz)) 0 0 (va_A [(mo, .inr (12, [.int v0, .ref m1, .ref m2, .ref m3, .ref m4, .ref m5, .int v6, .int v7, .int v8, .int v9, .int v10, .long v11, .int v12, .int v13, .int v14, .int v15, .ref m16, .ref m17, .ref m18, .ref m19, .ref m20, .ref m21, .ref m22, .ref m23, .int v24, .ref m25, .ref m26, .ref m27, .ref m28, .ref m29, .int v30, .ref m31, .ref m32, .ref m33, .int v34, .int v35, .int v36, .ref m37, .ref m38, .ref m39, .ref m40, .long v41])), (m5, .inl (k 1, 1000, .inl f5))] sz) := by
  refine Met.ofW (cc := cX12_takes) (maxL := 3) (ret := (some .boolean)) (by decide +kernel) rfl ?_
  intro p e s m args below meth c s₁ B hml hv
  obtain ⟨rfl, hsz, hP, hK, hD0, hN⟩ := hv
  have hx := B.exec
  have hb := B.bytes
  have hr := B.returns
  have hts : ∀ w ∈ TT, w.before _ s = true := fun w h => atoms_spec (ws := ww yX12_takes cX12_takes 3 (some .boolean)) B.pre w (List.mem_cons_of_mem _ h)
  have hown : s.vm.findClass RX12 = some m.cls := findClass_of_methodNamed B.named
  have hlocks := B.notSynchronized
  subst hsz
  have hD := hD0.self (sz := s.heap.size)
  generalize hAe : va_A [(mo, .inr (12, [.int v0, .ref m1, .ref m2, .ref m3, .ref m4, .ref m5, .int v6, .int v7, .int v8, .int v9, .int v10, .long v11, .int v12, .int v13, .int v14, .int v15, .ref m16, .ref m17, .ref m18, .ref m19, .ref m20, .ref m21, .ref m22, .ref m23, .int v24, .ref m25, .ref m26, .ref m27, .ref m28, .ref m29, .int v30, .ref m31, .ref m32, .ref m33, .int v34, .int v35, .int v36, .ref m37, .ref m38, .ref m39, .ref m40, .long v41])), (m5, .inl (k 1, 1000, .inl f5))] s.heap.size = A at hD ⊢
  have hA : ∀ q : Nat, s.heap.size ≤ q → A q := fun q h => by rw [← hAe]; exact Or.inr h
  have hS : va_S A s.heap s.heap [] := va_S.rf
  have hl := lv_entry ([.ref mo, .long p0]) (n := 3) (Nat.le_of_ble_eq_true rfl)
  rw [lg_entry_eq]
  generalize (lg_sl ([.ref mo, .long p0]) ++ List.replicate (3 - (lg_sl ([.ref mo, .long p0])).length) Slot.unset).toArray = ls at hl ⊢
  have hl : lv_has ls 3 [(0, .ref mo), (1, .long p0)] := hl
  refine lv_aload_n hx hb dX12_takes_0 rfl (lv_at hl 0 rfl) ?_
  refine lv_lload_n hx hb dX12_takes_1 rfl (lv_at hl 1 rfl) ?_
  obtain ⟨hPc, hDc, hFc⟩ := sub3 hP hD hS hA (ws' := [(mo, .inr (12, [.int v0, .ref m1, .ref m2, .ref m3, .ref m4, .ref m5, .int v6, .int v7, .int v8, .int v9, .int v10, .long v11, .int v12, .int v13, .int v14, .int v15, .ref m16, .ref m17, .ref m18, .ref m19, .ref m20, .ref m21, .ref m22, .ref m23, .int v24, .ref m25, .ref m26, .ref m27, .ref m28, .ref m29, .int v30, .ref m31, .ref m32, .ref m33, .int v34, .int v35, .int v36, .ref m37, .ref m38, .ref m39, .ref m40, .long v41]))]) [0] (by decide +kernel) rfl
  refine va_calli (va_runV (C := RX12) (As := [.long p0]) (rest := []) ⟨hx, hb, hml, hown, hts⟩ (c_X12_is l D k mo p0 v0 m1 m2 m3 m4 m5 v6 v7 v8 v9 v10 v11 v12 v13 v14 v15 m16 m17 m18 m19 m20 m21 m22 m23 v24 m25 m26 m27 m28 m29 v30 m31 m32 m33 v34 v35 v36 m37 m38 m39 m40 v41 s.heap.size (show 0 ≤ v6.toInt ∧ v6.toInt ≤ 1000 from by omega) (show 0 ≤ v24.toInt ∧ v24.toInt ≤ 1023 from by omega)) (cwV 1 hts (gV tw_7_20 tw_7_22 tw_p_44 tw_1_13 tw_7_23) rfl rfl rfl hdV_X12_is ⟨Nat.le_of_ble_eq_true rfl, Nat.le_of_ble_eq_true rfl⟩) (cz_V hK hPc hDc hN (ci := 12) (q0 := 0) rfl rfl [.long p0]) rfl rfl hl.1 rfl (lv_room (Nat.le_of_ble_eq_true rfl)) dX12_takes_2 ⟨Nat.le_of_ble_eq_true rfl, Nat.le_of_ble_eq_true rfl⟩) hS (fun q _ h => hFc q h) hFc (fun r_1 uZ tZ H1 locs ht hvm hw hB hz1 hk1 hS => ?_)
  obtain ⟨hP1, hK1, hD1⟩ := hB
  rw [ht] at hP1
  obtain ⟨hP, hD⟩ := va_join (wr := [(m5, .inl (k 1, 1000, .inl f5))]) (w1 := [(mo, .inr (12, [.int v0, .ref m1, .ref m2, .ref m3, .ref m4, .ref m5, .int v6, .int v7, .int v8, .int v9, .int v10, .long v11, .int v12, .int v13, .int v14, .int v15, .ref m16, .ref m17, .ref m18, .ref m19, .ref m20, .ref m21, .ref m22, .ref m23, .int v24, .ref m25, .ref m26, .ref m27, .ref m28, .ref m29, .int v30, .ref m31, .ref m32, .ref m33, .int v34, .int v35, .int v36, .ref m37, .ref m38, .ref m39, .ref m40, .long v41]))]) hP hD [0] [1] rfl rfl (by decide +kernel) (by decide +kernel) hk1 hFc hP1 hD1
  clear hK1 hP1 hD1 hPc hDc hFc
  clear hk1 hz1 ht hvm
  have hP : va_P D vwCl [(m5, .inl (k 1, 1000, .inl f5)), (mo, .inr (12, [.int v0, .ref m1, .ref m2, .ref m3, .ref m4, .ref m5, .int v6, .int v7, .int v8, .int v9, .int v10, .long v11, .int v12, .int v13, .int v14, .int v15, .ref m16, .ref m17, .ref m18, .ref m19, .ref m20, .ref m21, .ref m22, .ref m23, .int v24, .ref m25, .ref m26, .ref m27, .ref m28, .ref m29, .int v30, .ref m31, .ref m32, .ref m33, .int v34, .int v35, .int v36, .ref m37, .ref m38, .ref m39, .ref m40, .long v41]))] H1 := hP
  have hD : va_D A [(m5, .inl (k 1, 1000, .inl f5)), (mo, .inr (12, [.int v0, .ref m1, .ref m2, .ref m3, .ref m4, .ref m5, .int v6, .int v7, .int v8, .int v9, .int v10, .long v11, .int v12, .int v13, .int v14, .int v15, .ref m16, .ref m17, .ref m18, .ref m19, .ref m20, .ref m21, .ref m22, .ref m23, .int v24, .ref m25, .ref m26, .ref m27, .ref m28, .ref m29, .int v30, .ref m31, .ref m32, .ref m33, .int v34, .int v35, .int v36, .ref m37, .ref m38, .ref m39, .ref m40, .long v41]))] := hD
  generalize H1 = H at hP hS ⊢
  have hw_2 : (0 ≤ r_1.toInt ∧ r_1.toInt ≤ 1) := hw
  have hw_3 := hw_2
  clear hw
  refine lv_if_ne (tgt := 10) hx hb dX12_takes_5 (by decide) (fun h_4 => ?_) (fun h_4 => ?_)
  · skip
    have zh_4 : ¬ r_1.toInt = 0 := z_ne h_4
    refine lv_aload_n hx hb dX12_takes_10 rfl (lv_at hl 0 rfl) ?_
    obtain ⟨hPc, hDc, hFc⟩ := sub3 hP hD hS hA (ws' := [(mo, .inr (12, [.int v0, .ref m1, .ref m2, .ref m3, .ref m4, .ref m5, .int v6, .int v7, .int v8, .int v9, .int v10, .long v11, .int v12, .int v13, .int v14, .int v15, .ref m16, .ref m17, .ref m18, .ref m19, .ref m20, .ref m21, .ref m22, .ref m23, .int v24, .ref m25, .ref m26, .ref m27, .ref m28, .ref m29, .int v30, .ref m31, .ref m32, .ref m33, .int v34, .int v35, .int v36, .ref m37, .ref m38, .ref m39, .ref m40, .long v41])), (m5, .inl (k 1, 1000, .inl f5))]) [1, 0] (by decide +kernel) rfl
    refine va_callv (va_runV (C := RX12) (As := []) (rest := []) ⟨hx, hb, hml, hown, hts⟩ (c_X12_next l D k mo v0 m1 m2 m3 m4 m5 v6 v7 v8 v9 v10 v11 v12 v13 v14 v15 m16 m17 m18 m19 m20 m21 m22 m23 v24 m25 m26 m27 m28 m29 v30 m31 m32 m33 v34 v35 v36 m37 m38 m39 m40 v41 f5 H.size (show 0 ≤ v6.toInt ∧ v6.toInt ≤ 1000 from by omega) (show 0 ≤ v7.toInt ∧ v7.toInt ≤ 1000 from by omega) (show 0 ≤ v24.toInt ∧ v24.toInt ≤ 1023 from by omega) (show v7.toInt ≤ v6.toInt from by omega)) (cwV 0 hts (gV tw_6_234 tw_6_236 tw_p_39 tw_1_13 tw_6_237) rfl rfl rfl hdV_X12_next ⟨Nat.le_of_ble_eq_true rfl, Nat.le_of_ble_eq_true rfl⟩) (cz_V hK hPc hDc hN (ci := 12) (q0 := 0) rfl rfl []) rfl rfl hl.1 rfl (lv_room (Nat.le_of_ble_eq_true rfl)) dX12_takes_11 ⟨Nat.le_of_ble_eq_true rfl, Nat.le_of_ble_eq_true rfl⟩) hS (fun q _ h => hFc q h) hFc (fun uZ tZ H1 locs ht hvm hw hB hz1 hk1 hS => ?_)
    obtain ⟨o_6, o_7, o_8, o_9, o_10⟩ := uZ
    obtain ⟨hP1, hK1, hD1⟩ := hB
    rw [ht] at hP1
    obtain ⟨hP, hD⟩ := va_join (wr := []) (w1 := [(mo, .inr (12, [.int v0, .ref m1, .ref m2, .ref m3, .ref m4, .ref m5, .int v6, .int o_6, .int o_7, .int o_8, .int o_9, .long o_10, .int v12, .int v13, .int v14, .int v15, .ref m16, .ref m17, .ref m18, .ref m19, .ref m20, .ref m21, .ref m22, .ref m23, .int v24, .ref m25, .ref m26, .ref m27, .ref m28, .ref m29, .int v30, .ref m31, .ref m32, .ref m33, .int v34, .int v35, .int v36, .ref m37, .ref m38, .ref m39, .ref m40, .long v41])), (m5, .inl (k 1, 1000, .inl f5))]) hP hD [1, 0] [] rfl rfl (by decide +kernel) (by decide +kernel) hk1 hFc hP1 hD1
    clear hK1 hP1 hD1 hPc hDc hFc
    clear hk1 hz1 ht hvm
    have hP : va_P D vwCl [(mo, .inr (12, [.int v0, .ref m1, .ref m2, .ref m3, .ref m4, .ref m5, .int v6, .int o_6, .int o_7, .int o_8, .int o_9, .long o_10, .int v12, .int v13, .int v14, .int v15, .ref m16, .ref m17, .ref m18, .ref m19, .ref m20, .ref m21, .ref m22, .ref m23, .int v24, .ref m25, .ref m26, .ref m27, .ref m28, .ref m29, .int v30, .ref m31, .ref m32, .ref m33, .int v34, .int v35, .int v36, .ref m37, .ref m38, .ref m39, .ref m40, .long v41])), (m5, .inl (k 1, 1000, .inl f5))] H1 := hP
    have hD : va_D A [(mo, .inr (12, [.int v0, .ref m1, .ref m2, .ref m3, .ref m4, .ref m5, .int v6, .int o_6, .int o_7, .int o_8, .int o_9, .long o_10, .int v12, .int v13, .int v14, .int v15, .ref m16, .ref m17, .ref m18, .ref m19, .ref m20, .ref m21, .ref m22, .ref m23, .int v24, .ref m25, .ref m26, .ref m27, .ref m28, .ref m29, .int v30, .ref m31, .ref m32, .ref m33, .int v34, .int v35, .int v36, .ref m37, .ref m38, .ref m39, .ref m40, .long v41])), (m5, .inl (k 1, 1000, .inl f5))] := hD
    generalize H1 = H at hP hS ⊢
    have hw_11 : (0 ≤ o_6.toInt ∧ o_6.toInt ≤ 1000) ∧ (0 ≤ o_7.toInt ∧ o_7.toInt ≤ 4) ∧ (0 ≤ o_8.toInt ∧ o_8.toInt ≤ 1000) ∧ (v7.toInt ≤ o_6.toInt ∧ o_6.toInt ≤ v6.toInt) ∧ (o_7.toInt = 0 ∨ v7.toInt < o_6.toInt) := hw
    obtain ⟨hw_12, hw_13, hw_14, hw_15, hw_16⟩ := hw_11
    clear hw
    refine lv_iconst (v := 1) hx hb dX12_takes_14 (by decide) ?_
    obtain ⟨hP9, hD9⟩ := sub2 hP hD (ws' := [(mo, .inr (12, [.int v0, .ref m1, .ref m2, .ref m3, .ref m4, .ref m5, .int v6, .int o_6, .int o_7, .int o_8, .int o_9, .long o_10, .int v12, .int v13, .int v14, .int v15, .ref m16, .ref m17, .ref m18, .ref m19, .ref m20, .ref m21, .ref m22, .ref m23, .int v24, .ref m25, .ref m26, .ref m27, .ref m28, .ref m29, .int v30, .ref m31, .ref m32, .ref m33, .int v34, .int v35, .int v36, .ref m37, .ref m38, .ref m39, .ref m40, .long v41])), (m5, .inl (k 1, 1000, .inl f5))]) [0, 1] (by decide +kernel) rfl
    exact W.zret (v := 1) hx hb hr (by decide) (fun tZ ht hW => ⟨⟨1, (o_6, o_7, o_8, o_9, o_10), rfl, ⟨(show 0 ≤ 1 ∧ 1 ≤ 1 from by omega), (show 0 ≤ o_6.toInt ∧ o_6.toInt ≤ 1000 from by omega), (show v7.toInt ≤ o_6.toInt ∧ o_6.toInt ≤ v6.toInt from by omega)⟩, by rw [ht]; exact hP9, va_K.moved hW.alike hK, hD9⟩, hS.F ht⟩) hS.2.2 dX12_takes_15
  · skip
    have zh_4 : r_1.toInt = 0 := z_eq h_4
    refine lv_iconst (v := 0) hx hb dX12_takes_8 (by decide) ?_
    obtain ⟨hP9, hD9⟩ := sub2 hP hD (ws' := [(mo, .inr (12, [.int v0, .ref m1, .ref m2, .ref m3, .ref m4, .ref m5, .int v6, .int v7, .int v8, .int v9, .int v10, .long v11, .int v12, .int v13, .int v14, .int v15, .ref m16, .ref m17, .ref m18, .ref m19, .ref m20, .ref m21, .ref m22, .ref m23, .int v24, .ref m25, .ref m26, .ref m27, .ref m28, .ref m29, .int v30, .ref m31, .ref m32, .ref m33, .int v34, .int v35, .int v36, .ref m37, .ref m38, .ref m39, .ref m40, .long v41])), (m5, .inl (k 1, 1000, .inl f5))]) [1, 0] (by decide +kernel) rfl
    exact W.zret (v := 0) hx hb hr (by decide) (fun tZ ht hW => ⟨⟨0, (v7, v8, v9, v10, v11), rfl, ⟨(show 0 ≤ 0 ∧ 0 ≤ 1 from by omega), (show 0 ≤ v7.toInt ∧ v7.toInt ≤ 1000 from by omega), (show v7.toInt ≤ v7.toInt ∧ v7.toInt ≤ v6.toInt from by omega)⟩, by rw [ht]; exact hP9, va_K.moved hW.alike hK, hD9⟩, hS.F ht⟩) hS.2.2 dX12_takes_9
set_option maxHeartbeats 4000000 in
set_option maxRecDepth 100000 in
theorem c_X12_asks (l : Launch) (D : va_G) (k : Nat → ClassId) (mo : Nat) (p0 : Int64) (v0 : Int32) (m1 : Nat) (m2 : Nat) (m3 : Nat) (m4 : Nat) (m5 : Nat) (v6 : Int32) (v7 : Int32) (v8 : Int32) (v9 : Int32) (v10 : Int32) (v11 : Int64) (v12 : Int32) (v13 : Int32) (v14 : Int32) (v15 : Int32) (m16 : Nat) (m17 : Nat) (m18 : Nat) (m19 : Nat) (m20 : Nat) (m21 : Nat) (m22 : Nat) (m23 : Nat) (v24 : Int32) (m25 : Nat) (m26 : Nat) (m27 : Nat) (m28 : Nat) (m29 : Nat) (v30 : Int32) (m31 : Nat) (m32 : Nat) (m33 : Nat) (v34 : Int32) (v35 : Int32) (v36 : Int32) (m37 : Nat) (m38 : Nat) (m39 : Nat) (m40 : Nat) (v41 : Int64) (f5 : Nat → Int32) (sz : Nat) (h_v6 : 0 ≤ v6.toInt ∧ v6.toInt ≤ 1000) (h_v7 : 0 ≤ v7.toInt ∧ v7.toInt ≤ 1000) (h_v24 : 0 ≤ v24.toInt ∧ v24.toInt ≤ 1023) (hat : v7.toInt ≤ v6.toInt) : Met l yX12_asks (ww yX12_asks cX12_asks 3 none) ({ frames := 3, cells := 0, slots := 0, locals := 66 }) (Pre0 D k [(mo, .inr (12, [.int v0, .ref m1, .ref m2, .ref m3, .ref m4, .ref m5, .int v6, .int v7, .int v8, .int v9, .int v10, .long v11, .int v12, .int v13, .int v14, .int v15, .ref m16, .ref m17, .ref m18, .ref m19, .ref m20, .ref m21, .ref m22, .ref m23, .int v24, .ref m25, .ref m26, .ref m27, .ref m28, .ref m29, .int v30, .ref m31, .ref m32, .ref m33, .int v34, .int v35, .int v36, .ref m37, .ref m38, .ref m39, .ref m40, .long v41])), (m5, .inl (k 1, 1000, .inl f5))] sz [.ref mo, .long p0]) (va_Qv (fun (u : Int32 × Int32 × Int32 × Int32 × Int64 × Int32 × Int32) => match u with | (v7z, v8z, v9z, v10z, v11z, v12z, v13z) => (0 ≤ v7z.toInt ∧ v7z.toInt ≤ 1000) ∧ (v7.toInt ≤ v7z.toInt ∧ v7z.toInt ≤ v6.toInt)) (fun (u : Int32 × Int32 × Int32 × Int32 × Int64 × Int32 × Int32) tZ => match u with | (v7z, v8z, v9z, v10z, v11z, v12z, v13z) => Bw D k (va_A [(mo, .inr (12, [.int v0, .ref m1, .ref m2, .ref m3, .ref m4, .ref m5, .int v6, .int v7, .int v8, .int v9, .int v10, .long v11, .int v12, .int v13, .int v14, .int v15, .ref m16, .ref m17, .ref m18, .ref m19, .ref m20, .ref m21, .ref m22, .ref m23, .int v24, .ref m25, .ref m26, .ref m27, .ref m28, .ref m29, .int v30, .ref m31, .ref m32, .ref m33, .int v34, .int v35, .int v36, .ref m37, .ref m38, .ref m39, .ref m40, .long v41])), (m5, .inl (k 1, 1000, .inl f5))] sz) [(mo, .inr (12, [.int v0, .ref m1, .ref m2, .ref m3, .ref m4, .ref m5, .int v6, .int v7z, .int v8z, .int v9z, .int v10z, .long v11z, .int v12z, .int v13z, .int v14, .int v15, .ref m16, .ref m17, .ref m18, .ref m19, .ref m20, .ref m21, .ref m22, .ref m23, .int v24, .ref m25, .ref m26, .ref m27, .ref m28, .ref m29, .int v30, .ref m31, .ref m32, .ref m33, .int v34, .int v35, .int v36, .ref m37, .ref m38, .ref m39, .ref m40, .long v41])), (m5, .inl (k 1, 1000, .inl f5))] tZ) (va_A [(mo, .inr (12, [.int v0, .ref m1, .ref m2, .ref m3, .ref m4, .ref m5, .int v6, .int v7, .int v8, .int v9, .int v10, .long v11, .int v12, .int v13, .int v14, .int v15, .ref m16, .ref m17, .ref m18, .ref m19, .ref m20, .ref m21, .ref m22, .ref m23, .int v24, .ref m25, .ref m26, .ref m27, .ref m28, .ref m29, .int v30, .ref m31, .ref m32, .ref m33, .int v34, .int v35, .int v36, .ref m37, .ref m38, .ref m39, .ref m40, .long v41])), (m5, .inl (k 1, 1000, .inl f5))] sz)) 0 0 (va_A [(mo, .inr (12, [.int v0, .ref m1, .ref m2, .ref m3, .ref m4, .ref m5, .int v6, .int v7, .int v8, .int v9, .int v10, .long v11, .int v12, .int v13, .int v14, .int v15, .ref m16, .ref m17, .ref m18, .ref m19, .ref m20, .ref m21, .ref m22, .ref m23, .int v24, .ref m25, .ref m26, .ref m27, .ref m28, .ref m29, .int v30, .ref m31, .ref m32, .ref m33, .int v34, .int v35, .int v36, .ref m37, .ref m38, .ref m39, .ref m40, .long v41])), (m5, .inl (k 1, 1000, .inl f5))] sz) := by
  refine Met.ofW (cc := cX12_asks) (maxL := 3) (ret := none) (by decide +kernel) rfl ?_
  intro p e s m args below meth c s₁ B hml hv
  obtain ⟨rfl, hsz, hP, hK, hD0, hN⟩ := hv
  have hx := B.exec
  have hb := B.bytes
  have hr := B.returns
  have hts : ∀ w ∈ TT, w.before _ s = true := fun w h => atoms_spec (ws := ww yX12_asks cX12_asks 3 none) B.pre w (List.mem_cons_of_mem _ h)
  have hown : s.vm.findClass RX12 = some m.cls := findClass_of_methodNamed B.named
  have hlocks := B.notSynchronized
  subst hsz
  have hD := hD0.self (sz := s.heap.size)
  generalize hAe : va_A [(mo, .inr (12, [.int v0, .ref m1, .ref m2, .ref m3, .ref m4, .ref m5, .int v6, .int v7, .int v8, .int v9, .int v10, .long v11, .int v12, .int v13, .int v14, .int v15, .ref m16, .ref m17, .ref m18, .ref m19, .ref m20, .ref m21, .ref m22, .ref m23, .int v24, .ref m25, .ref m26, .ref m27, .ref m28, .ref m29, .int v30, .ref m31, .ref m32, .ref m33, .int v34, .int v35, .int v36, .ref m37, .ref m38, .ref m39, .ref m40, .long v41])), (m5, .inl (k 1, 1000, .inl f5))] s.heap.size = A at hD ⊢
  have hA : ∀ q : Nat, s.heap.size ≤ q → A q := fun q h => by rw [← hAe]; exact Or.inr h
  have hS : va_S A s.heap s.heap [] := va_S.rf
  have hl := lv_entry ([.ref mo, .long p0]) (n := 3) (Nat.le_of_ble_eq_true rfl)
  rw [lg_entry_eq]
  generalize (lg_sl ([.ref mo, .long p0]) ++ List.replicate (3 - (lg_sl ([.ref mo, .long p0])).length) Slot.unset).toArray = ls at hl ⊢
  have hl : lv_has ls 3 [(0, .ref mo), (1, .long p0)] := hl
  refine lv_aload_n hx hb dX12_asks_0 rfl (lv_at hl 0 rfl) ?_
  refine lv_lload_n hx hb dX12_asks_1 rfl (lv_at hl 1 rfl) ?_
  obtain ⟨hPc, hDc, hFc⟩ := sub3 hP hD hS hA (ws' := [(mo, .inr (12, [.int v0, .ref m1, .ref m2, .ref m3, .ref m4, .ref m5, .int v6, .int v7, .int v8, .int v9, .int v10, .long v11, .int v12, .int v13, .int v14, .int v15, .ref m16, .ref m17, .ref m18, .ref m19, .ref m20, .ref m21, .ref m22, .ref m23, .int v24, .ref m25, .ref m26, .ref m27, .ref m28, .ref m29, .int v30, .ref m31, .ref m32, .ref m33, .int v34, .int v35, .int v36, .ref m37, .ref m38, .ref m39, .ref m40, .long v41])), (m5, .inl (k 1, 1000, .inl f5))]) [0, 1] (by decide +kernel) rfl
  refine va_calli (va_runV (C := RX12) (As := [.long p0]) (rest := []) ⟨hx, hb, hml, hown, hts⟩ (c_X12_takes l D k mo p0 v0 m1 m2 m3 m4 m5 v6 v7 v8 v9 v10 v11 v12 v13 v14 v15 m16 m17 m18 m19 m20 m21 m22 m23 v24 m25 m26 m27 m28 m29 v30 m31 m32 m33 v34 v35 v36 m37 m38 m39 m40 v41 f5 s.heap.size (show 0 ≤ v6.toInt ∧ v6.toInt ≤ 1000 from by omega) (show 0 ≤ v7.toInt ∧ v7.toInt ≤ 1000 from by omega) (show 0 ≤ v24.toInt ∧ v24.toInt ≤ 1023 from by omega) (show v7.toInt ≤ v6.toInt from by omega)) (cwV 1 hts (gV tw_7_16 tw_7_18 tw_p_43 tw_1_13 tw_7_19) rfl rfl rfl hdV_X12_takes ⟨Nat.le_of_ble_eq_true rfl, Nat.le_of_ble_eq_true rfl⟩) (cz_V hK hPc hDc hN (ci := 12) (q0 := 0) rfl rfl [.long p0]) rfl rfl hl.1 rfl (lv_room (Nat.le_of_ble_eq_true rfl)) dX12_asks_2 ⟨Nat.le_of_ble_eq_true rfl, Nat.le_of_ble_eq_true rfl⟩) hS (fun q _ h => hFc q h) hFc (fun r_1 uZ tZ H1 locs ht hvm hw hB hz1 hk1 hS => ?_)
  obtain ⟨o_2, o_3, o_4, o_5, o_6⟩ := uZ
  obtain ⟨hP1, hK1, hD1⟩ := hB
  rw [ht] at hP1
  obtain ⟨hP, hD⟩ := va_join (wr := []) (w1 := [(mo, .inr (12, [.int v0, .ref m1, .ref m2, .ref m3, .ref m4, .ref m5, .int v6, .int o_2, .int o_3, .int o_4, .int o_5, .long o_6, .int v12, .int v13, .int v14, .int v15, .ref m16, .ref m17, .ref m18, .ref m19, .ref m20, .ref m21, .ref m22, .ref m23, .int v24, .ref m25, .ref m26, .ref m27, .ref m28, .ref m29, .int v30, .ref m31, .ref m32, .ref m33, .int v34, .int v35, .int v36, .ref m37, .ref m38, .ref m39, .ref m40, .long v41])), (m5, .inl (k 1, 1000, .inl f5))]) hP hD [0, 1] [] rfl rfl (by decide +kernel) (by decide +kernel) hk1 hFc hP1 hD1
  clear hK1 hP1 hD1 hPc hDc hFc
  clear hk1 hz1 ht hvm
  have hP : va_P D vwCl [(mo, .inr (12, [.int v0, .ref m1, .ref m2, .ref m3, .ref m4, .ref m5, .int v6, .int o_2, .int o_3, .int o_4, .int o_5, .long o_6, .int v12, .int v13, .int v14, .int v15, .ref m16, .ref m17, .ref m18, .ref m19, .ref m20, .ref m21, .ref m22, .ref m23, .int v24, .ref m25, .ref m26, .ref m27, .ref m28, .ref m29, .int v30, .ref m31, .ref m32, .ref m33, .int v34, .int v35, .int v36, .ref m37, .ref m38, .ref m39, .ref m40, .long v41])), (m5, .inl (k 1, 1000, .inl f5))] H1 := hP
  have hD : va_D A [(mo, .inr (12, [.int v0, .ref m1, .ref m2, .ref m3, .ref m4, .ref m5, .int v6, .int o_2, .int o_3, .int o_4, .int o_5, .long o_6, .int v12, .int v13, .int v14, .int v15, .ref m16, .ref m17, .ref m18, .ref m19, .ref m20, .ref m21, .ref m22, .ref m23, .int v24, .ref m25, .ref m26, .ref m27, .ref m28, .ref m29, .int v30, .ref m31, .ref m32, .ref m33, .int v34, .int v35, .int v36, .ref m37, .ref m38, .ref m39, .ref m40, .long v41])), (m5, .inl (k 1, 1000, .inl f5))] := hD
  generalize H1 = H at hP hS ⊢
  have hw_7 : (0 ≤ r_1.toInt ∧ r_1.toInt ≤ 1) ∧ (0 ≤ o_2.toInt ∧ o_2.toInt ≤ 1000) ∧ (v7.toInt ≤ o_2.toInt ∧ o_2.toInt ≤ v6.toInt) := hw
  obtain ⟨hw_8, hw_9, hw_10⟩ := hw_7
  clear hw
  refine lv_if_ne (tgt := 13) hx hb dX12_asks_5 (by decide) (fun h_11 => ?_) (fun h_11 => ?_)
  · skip
    have zh_11 : ¬ r_1.toInt = 0 := z_ne h_11
    obtain ⟨hP9, hD9⟩ := sub2 hP hD (ws' := [(mo, .inr (12, [.int v0, .ref m1, .ref m2, .ref m3, .ref m4, .ref m5, .int v6, .int o_2, .int o_3, .int o_4, .int o_5, .long o_6, .int v12, .int v13, .int v14, .int v15, .ref m16, .ref m17, .ref m18, .ref m19, .ref m20, .ref m21, .ref m22, .ref m23, .int v24, .ref m25, .ref m26, .ref m27, .ref m28, .ref m29, .int v30, .ref m31, .ref m32, .ref m33, .int v34, .int v35, .int v36, .ref m37, .ref m38, .ref m39, .ref m40, .long v41])), (m5, .inl (k 1, 1000, .inl f5))]) [0, 1] (by decide +kernel) rfl
    exact W.vret hx hb hr (fun tZ ht hW => ⟨⟨(o_2, o_3, o_4, o_5, o_6, v12, v13), rfl, ⟨(show 0 ≤ o_2.toInt ∧ o_2.toInt ≤ 1000 from by omega), (show v7.toInt ≤ o_2.toInt ∧ o_2.toInt ≤ v6.toInt from by omega)⟩, by rw [ht]; exact hP9, va_K.moved hW.alike hK, hD9⟩, hS.F ht⟩) hS.2.2 dX12_asks_13
  · skip
    have zh_11 : r_1.toInt = 0 := z_eq h_11
    refine lv_aload_n hx hb dX12_asks_8 rfl (lv_at hl 0 rfl) ?_
    refine lv_iconst (v := 1) hx hb dX12_asks_9 (by decide) ?_
    obtain ⟨hPc, hDc, hFc⟩ := sub3 hP hD hS hA (ws' := [(mo, .inr (12, [.int v0, .ref m1, .ref m2, .ref m3, .ref m4, .ref m5, .int v6, .int o_2, .int o_3, .int o_4, .int o_5, .long o_6, .int v12, .int v13, .int v14, .int v15, .ref m16, .ref m17, .ref m18, .ref m19, .ref m20, .ref m21, .ref m22, .ref m23, .int v24, .ref m25, .ref m26, .ref m27, .ref m28, .ref m29, .int v30, .ref m31, .ref m32, .ref m33, .int v34, .int v35, .int v36, .ref m37, .ref m38, .ref m39, .ref m40, .long v41]))]) [0] (by decide +kernel) rfl
    refine va_callv (va_runV (C := RX12) (As := [.int 1]) (rest := []) ⟨hx, hb, hml, hown, hts⟩ (c_X12_fails l D k mo 1 v0 m1 m2 m3 m4 m5 v6 o_2 o_3 o_4 o_5 o_6 v12 v13 v14 v15 m16 m17 m18 m19 m20 m21 m22 m23 v24 m25 m26 m27 m28 m29 v30 m31 m32 m33 v34 v35 v36 m37 m38 m39 m40 v41 H.size (show 0 ≤ v6.toInt ∧ v6.toInt ≤ 1000 from by omega) (show 0 ≤ v24.toInt ∧ v24.toInt ≤ 1023 from by omega)) (cwV 1 hts (gV tw_7_24 tw_7_26 tw_p_45 tw_1_13 tw_7_27) rfl rfl rfl hdV_X12_fails ⟨Nat.le_of_ble_eq_true rfl, Nat.le_of_ble_eq_true rfl⟩) (cz_V hK hPc hDc hN (ci := 12) (q0 := 0) rfl rfl [.int 1]) rfl rfl hl.1 rfl (lv_room (Nat.le_of_ble_eq_true rfl)) dX12_asks_10 ⟨Nat.le_of_ble_eq_true rfl, Nat.le_of_ble_eq_true rfl⟩) hS (fun q _ h => hFc q h) hFc (fun uZ tZ H1 locs ht hvm hw hB hz1 hk1 hS => ?_)
    obtain ⟨o_13, o_14⟩ := uZ
    obtain ⟨hP1, hK1, hD1⟩ := hB
    rw [ht] at hP1
    obtain ⟨hP, hD⟩ := va_join (wr := [(m5, .inl (k 1, 1000, .inl f5))]) (w1 := [(mo, .inr (12, [.int v0, .ref m1, .ref m2, .ref m3, .ref m4, .ref m5, .int v6, .int o_2, .int o_3, .int o_4, .int o_5, .long o_6, .int o_13, .int o_14, .int v14, .int v15, .ref m16, .ref m17, .ref m18, .ref m19, .ref m20, .ref m21, .ref m22, .ref m23, .int v24, .ref m25, .ref m26, .ref m27, .ref m28, .ref m29, .int v30, .ref m31, .ref m32, .ref m33, .int v34, .int v35, .int v36, .ref m37, .ref m38, .ref m39, .ref m40, .long v41]))]) hP hD [0] [1] rfl rfl (by decide +kernel) (by decide +kernel) hk1 hFc hP1 hD1
    clear hK1 hP1 hD1 hPc hDc hFc
    clear hk1 hz1 ht hvm
    have hP : va_P D vwCl [(m5, .inl (k 1, 1000, .inl f5)), (mo, .inr (12, [.int v0, .ref m1, .ref m2, .ref m3, .ref m4, .ref m5, .int v6, .int o_2, .int o_3, .int o_4, .int o_5, .long o_6, .int o_13, .int o_14, .int v14, .int v15, .ref m16, .ref m17, .ref m18, .ref m19, .ref m20, .ref m21, .ref m22, .ref m23, .int v24, .ref m25, .ref m26, .ref m27, .ref m28, .ref m29, .int v30, .ref m31, .ref m32, .ref m33, .int v34, .int v35, .int v36, .ref m37, .ref m38, .ref m39, .ref m40, .long v41]))] H1 := hP
    have hD : va_D A [(m5, .inl (k 1, 1000, .inl f5)), (mo, .inr (12, [.int v0, .ref m1, .ref m2, .ref m3, .ref m4, .ref m5, .int v6, .int o_2, .int o_3, .int o_4, .int o_5, .long o_6, .int o_13, .int o_14, .int v14, .int v15, .ref m16, .ref m17, .ref m18, .ref m19, .ref m20, .ref m21, .ref m22, .ref m23, .int v24, .ref m25, .ref m26, .ref m27, .ref m28, .ref m29, .int v30, .ref m31, .ref m32, .ref m33, .int v34, .int v35, .int v36, .ref m37, .ref m38, .ref m39, .ref m40, .long v41]))] := hD
    generalize H1 = H at hP hS ⊢
    have hw_15 : ((v12.toInt = 0 ∧ o_13.toInt = 1) ∨ (¬ v12.toInt = 0 ∧ o_13.toInt = v12.toInt)) := hw
    have hw_16 := hw_15
    clear hw
    obtain ⟨hP9, hD9⟩ := sub2 hP hD (ws' := [(mo, .inr (12, [.int v0, .ref m1, .ref m2, .ref m3, .ref m4, .ref m5, .int v6, .int o_2, .int o_3, .int o_4, .int o_5, .long o_6, .int o_13, .int o_14, .int v14, .int v15, .ref m16, .ref m17, .ref m18, .ref m19, .ref m20, .ref m21, .ref m22, .ref m23, .int v24, .ref m25, .ref m26, .ref m27, .ref m28, .ref m29, .int v30, .ref m31, .ref m32, .ref m33, .int v34, .int v35, .int v36, .ref m37, .ref m38, .ref m39, .ref m40, .long v41])), (m5, .inl (k 1, 1000, .inl f5))]) [1, 0] (by decide +kernel) rfl
    exact W.vret hx hb hr (fun tZ ht hW => ⟨⟨(o_2, o_3, o_4, o_5, o_6, o_13, o_14), rfl, ⟨(show 0 ≤ o_2.toInt ∧ o_2.toInt ≤ 1000 from by omega), (show v7.toInt ≤ o_2.toInt ∧ o_2.toInt ≤ v6.toInt from by omega)⟩, by rw [ht]; exact hP9, va_K.moved hW.alike hK, hD9⟩, hS.F ht⟩) hS.2.2 dX12_asks_13
