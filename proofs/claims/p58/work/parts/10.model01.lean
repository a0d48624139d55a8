set_option maxHeartbeats 4000000 in
set_option maxRecDepth 100000 in
theorem c_X12_darkens (l : Launch) (D : va_G) (k : Nat → ClassId) (mo : Nat) (p0 : Int32) (p1 : Int32) (v0 : Int32) (m1 : Nat) (m2 : Nat) (m3 : Nat) (m4 : Nat) (m5 : Nat) (v6 : Int32) (v7 : Int32) (v8 : Int32) (v9 : Int32) (v10 : Int32) (v11 : Int64) (v12 : Int32) (v13 : Int32) (v14 : Int32) (v15 : Int32) (m16 : Nat) (m17 : Nat) (m18 : Nat) (m19 : Nat) (m20 : Nat) (m21 : Nat) (m22 : Nat) (m23 : Nat) (v24 : Int32) (m25 : Nat) (m26 : Nat) (m27 : Nat) (m28 : Nat) (m29 : Nat) (v30 : Int32) (m31 : Nat) (m32 : Nat) (m33 : Nat) (v34 : Int32) (v35 : Int32) (v36 : Int32) (m37 : Nat) (m38 : Nat) (m39 : Nat) (m40 : Nat) (v41 : Int64) (f17 : Nat → Int32) (f18 : Nat → Int32) (f19 : Nat → Int32) (f25 : Nat → Int32) (f26 : Nat → Int32) (sz : Nat) (h_v6 : 0 ≤ v6.toInt ∧ v6.toInt ≤ 1000) (h_v24 : 0 ≤ v24.toInt ∧ v24.toInt ≤ 1023) (hp_f17_0 : PR 30 6 0 0 8 f17) (hp_f17_1 : PR 30 6 1 0 10 f17) (hp_f17_2 : PR 30 6 2 0 4 f17) (hp_f17_3 : PR 30 6 3 0 6 f17) (hp_f17_4 : PR 30 6 4 0 2 f17) (hp_f17_5 : PR 30 6 5 0 40 f17) (hp_f18_0 : PR 250 5 0 0 7 f18) (hp_f18_1 : PR 250 5 1 0 7 f18) (hp_f18_2 : PR 250 5 2 1 60 f18) (hp_f18_3 : PR 250 5 3 0 10 f18) (hp_f19_0 : PR 40 2 0 0 7 f19) (hp_f19_1 : PR 40 2 1 0 99 f19) (hp_f25_0 : PR 4 1 0 0 129 f25) (hp_f26_0 : PR 8 1 0 0 100000 f26) : Met l yX12_darkens (ww yX12_darkens cX12_darkens 4 none) ({ frames := 3, cells := 0, slots := 0, locals := 69 }) (Pre0 D k [(mo, .inr (12, [.int v0, .ref m1, .ref m2, .ref m3, .ref m4, .ref m5, .int v6, .int v7, .int v8, .int v9, .int v10, .long v11, .int v12, .int v13, .int v14, .int v15, .ref m16, .ref m17, .ref m18, .ref m19, .ref m20, .ref m21, .ref m22, .ref m23, .int v24, .ref m25, .ref m26, .ref m27, .ref m28, .ref m29, .int v30, .ref m31, .ref m32, .ref m33, .int v34, .int v35, .int v36, .ref m37, .ref m38, .ref m39, .ref m40, .long v41])), (m17, .inl (k 0, 30, .inl f17)), (m18, .inl (k 0, 250, .inl f18)), (m19, .inl (k 0, 40, .inl f19)), (m25, .inl (k 0, 4, .inl f25)), (m26, .inl (k 0, 8, .inl f26))] sz [.ref mo, .int p0, .int p1]) (va_Qv (fun (f26z : (Nat → Int32)) => True) (fun (f26z : (Nat → Int32)) tZ => Bw D k (va_A [(mo, .inr (12, [.int v0, .ref m1, .ref m2, .ref m3, .ref m4, .ref m5, .int v6, .int v7, .int v8, .int v9, .int v10, .long v11, .int v12, .int v13, .int v14, .int v15, .ref m16, .ref m17, .ref m18, .ref m19, .ref m20, .ref m21, .ref m22, .ref m23, .int v24, .ref m25, .ref m26, .ref m27, .ref m28, .ref m29, .int v30, .ref m31, .ref m32, .ref m33, .int v34, .int v35, .int v36, .ref m37, .ref m38, .ref m39, .ref m40, .long v41])), (m17, .inl (k 0, 30, .inl f17)), (m18, .inl (k 0, 250, .inl f18)), (m19, .inl (k 0, 40, .inl f19)), (m25, .inl (k 0, 4, .inl f25)), (m26, .inl (k 0, 8, .inl f26))] sz) [(mo, .inr (12, [.int v0, .ref m1, .ref m2, .ref m3, .ref m4, .ref m5, .int v6, .int v7, .int v8, .int v9, .int v10, .long v11, .int v12, .int v13, .int v14, .int v15, .ref m16, .ref m17, .ref m18, .ref m19, .ref m20, .ref m21, .ref m22, .ref m23, .int v24, .ref m25, .ref m26, .ref m27, .ref m28, .ref m29, .int v30, .ref m31, .ref m32, .ref m33, .int v34, .int v35, .int v36, .ref m37, .ref m38, .ref m39, .ref m40, .long v41])), (m17, .inl (k 0, 30, .inl f17)), (m18, .inl (k 0, 250, .inl f18)), (m19, .inl (k 0, 40, .inl f19)), (m25, .inl (k 0, 4, .inl f25)), (m26, .inl (k 0, 8, .inl f26z))] tZ) (va_A [(mo, .inr (12, [.int v0, .ref m1, .ref m2, .ref m3, .ref m4, .ref m5, .int v6, .int v7, .int v8, .int v9, .int v10, .long v11, .int v12, .int v13, .int v14, .int v15, .ref m16, .ref m17, .ref m18, .ref m19, .ref m20, .ref m21, .ref m22, .ref m23, .int v24, .ref m25, .ref m26, .ref m27, .ref m28, .ref m29, .int v30, .ref m31, .ref m32, .ref m33, .int v34, .int v35, .int v36, .ref m37, .ref m38, .ref m39, .ref m40, .long v41])), (m17, .inl (k 0, 30, .inl f17)), (m18, .inl (k 0, 250, .inl f18)), (m19, .inl (k 0, 40, .inl f19)), (m25, .inl (k 0, 4, .inl f25)), (m26, .inl (k 0, 8, .inl f26))] sz)) 0 0 (va_A [(mo, .inr (12, [.int v0, .ref m1, .ref m2, .ref m3, .ref m4, .ref m5, .int v6, .int v7, .int v8, .int v9, .int v10, .long v11, .int v12, .int v13, .int v14, .int v15, .ref m16, .ref m17, .ref m18, .ref m19, .ref m20, .ref m21, .ref m22, .ref m23, .int v24, .ref m25, .ref m26, .ref m27, .ref m28, .ref m29, .int v30, .ref m31, .ref m32, .ref m33, .int v34, .int v35, .int v36, .ref m37, .ref m38, .ref m39, .ref m40, .long v41])), (m17, .inl (k 0, 30, .inl f17)), (m18, .inl (k 0, 250, .inl f18)), (m19, .inl (k 0, 40, .inl f19)), (m25, .inl (k 0, 4, .inl f25)), (m26, .inl (k 0, 8, .inl f26))] sz) := by
  refine Met.ofW (cc := cX12_darkens) (maxL := 4) (ret := none) (by decide +kernel) rfl ?_
  intro p e s m args below meth c s₁ B hml hv
  obtain ⟨rfl, hsz, hP, hK, hD0, hN⟩ := hv
  have hx := B.exec
  have hb := B.bytes
  have hr := B.returns
  have hts : ∀ w ∈ TT, w.before _ s = true := fun w h => atoms_spec (ws := ww yX12_darkens cX12_darkens 4 none) B.pre w (List.mem_cons_of_mem _ h)
  have hown : s.vm.findClass RX12 = some m.cls := findClass_of_methodNamed B.named
  have hlocks := B.notSynchronized
  subst hsz
  have hD := hD0.self (sz := s.heap.size)
  generalize hAe : va_A [(mo, .inr (12, [.int v0, .ref m1, .ref m2, .ref m3, .ref m4, .ref m5, .int v6, .int v7, .int v8, .int v9, .int v10, .long v11, .int v12, .int v13, .int v14, .int v15, .ref m16, .ref m17, .ref m18, .ref m19, .ref m20, .ref m21, .ref m22, .ref m23, .int v24, .ref m25, .ref m26, .ref m27, .ref m28, .ref m29, .int v30, .ref m31, .ref m32, .ref m33, .int v34, .int v35, .int v36, .ref m37, .ref m38, .ref m39, .ref m40, .long v41])), (m17, .inl (k 0, 30, .inl f17)), (m18, .inl (k 0, 250, .inl f18)), (m19, .inl (k 0, 40, .inl f19)), (m25, .inl (k 0, 4, .inl f25)), (m26, .inl (k 0, 8, .inl f26))] s.heap.size = A at hD ⊢
  have hA : ∀ q : Nat, s.heap.size ≤ q → A q := fun q h => by rw [← hAe]; exact Or.inr h
  have hS : va_S A s.heap s.heap [] := va_S.rf
  have hl := lv_entry ([.ref mo, .int p0, .int p1]) (n := 4) (Nat.le_of_ble_eq_true rfl)
  rw [lg_entry_eq]
  generalize (lg_sl ([.ref mo, .int p0, .int p1]) ++ List.replicate (4 - (lg_sl ([.ref mo, .int p0, .int p1])).length) Slot.unset).toArray = ls at hl ⊢
  have hl : lv_has ls 4 [(0, .ref mo), (1, .int p0), (2, .int p1)] := hl
  refine lv_aload_n hx hb dX12_darkens_0 rfl (lv_at hl 0 rfl) ?_
  have hPc := hP.sub (ws' := [(mo, .inr (12, [.int v0, .ref m1, .ref m2, .ref m3, .ref m4, .ref m5, .int v6, .int v7, .int v8, .int v9, .int v10, .long v11, .int v12, .int v13, .int v14, .int v15, .ref m16, .ref m17, .ref m18, .ref m19, .ref m20, .ref m21, .ref m22, .ref m23, .int v24, .ref m25, .ref m26, .ref m27, .ref m28, .ref m29, .int v30, .ref m31, .ref m32, .ref m33, .int v34, .int v35, .int v36, .ref m37, .ref m38, .ref m39, .ref m40, .long v41])), (m26, .inl (k 0, 8, .inl f26))]) [0, 5] rfl
  have hDc := hD.sub (ws' := [(mo, .inr (12, [.int v0, .ref m1, .ref m2, .ref m3, .ref m4, .ref m5, .int v6, .int v7, .int v8, .int v9, .int v10, .long v11, .int v12, .int v13, .int v14, .int v15, .ref m16, .ref m17, .ref m18, .ref m19, .ref m20, .ref m21, .ref m22, .ref m23, .int v24, .ref m25, .ref m26, .ref m27, .ref m28, .ref m29, .int v30, .ref m31, .ref m32, .ref m33, .int v34, .int v35, .int v36, .ref m37, .ref m38, .ref m39, .ref m40, .long v41])), (m26, .inl (k 0, 8, .inl f26))]) [0, 5] (by decide) rfl
  have hFc := va_free (wc := [(mo, .inr (12, [.int v0, .ref m1, .ref m2, .ref m3, .ref m4, .ref m5, .int v6, .int v7, .int v8, .int v9, .int v10, .long v11, .int v12, .int v13, .int v14, .int v15, .ref m16, .ref m17, .ref m18, .ref m19, .ref m20, .ref m21, .ref m22, .ref m23, .int v24, .ref m25, .ref m26, .ref m27, .ref m28, .ref m29, .int v30, .ref m31, .ref m32, .ref m33, .int v34, .int v35, .int v36, .ref m37, .ref m38, .ref m39, .ref m40, .long v41])), (m26, .inl (k 0, 8, .inl f26))]) hD hS hA [0, 5] rfl
  refine va_callv (va_runV (C := RX12) (As := []) (rest := []) ⟨hx, hb, hml, hown, hts⟩ (c_X12_never l D k mo v0 m1 m2 m3 m4 m5 v6 v7 v8 v9 v10 v11 v12 v13 v14 v15 m16 m17 m18 m19 m20 m21 m22 m23 v24 m25 m26 m27 m28 m29 v30 m31 m32 m33 v34 v35 v36 m37 m38 m39 m40 v41 f26 s.heap.size (show 0 ≤ v6.toInt ∧ v6.toInt ≤ 1000 from by omega) (show 0 ≤ v24.toInt ∧ v24.toInt ≤ 1023 from by omega) hp_f26_0) (cwV 0 hts (gV tw_7_145 tw_7_147 tw_p_65 tw_1_13 tw_7_148) rfl rfl rfl hdV_X12_never ⟨Nat.le_of_ble_eq_true rfl, Nat.le_of_ble_eq_true rfl⟩) (cz_V hK hPc hDc hN (ci := 12) (q0 := 0) rfl rfl []) rfl rfl hl.1 rfl (lv_room (Nat.le_of_ble_eq_true rfl)) dX12_darkens_1 ⟨Nat.le_of_ble_eq_true rfl, Nat.le_of_ble_eq_true rfl⟩) hS (fun q _ h => hFc q h) hFc (fun uZ tZ H1 locs ht hvm hw hB hz1 hk1 hS => ?_)
  obtain ⟨o_2, rfl⟩ : ∃ z, z = uZ := ⟨_, rfl⟩
  obtain ⟨hP1, hK1, hD1⟩ := hB
  rw [ht] at hP1
  obtain ⟨hP, hD⟩ := va_join (wr := [(m17, .inl (k 0, 30, .inl f17)), (m18, .inl (k 0, 250, .inl f18)), (m19, .inl (k 0, 40, .inl f19)), (m25, .inl (k 0, 4, .inl f25))]) (w1 := [(mo, .inr (12, [.int v0, .ref m1, .ref m2, .ref m3, .ref m4, .ref m5, .int v6, .int v7, .int v8, .int v9, .int v10, .long v11, .int v12, .int v13, .int v14, .int v15, .ref m16, .ref m17, .ref m18, .ref m19, .ref m20, .ref m21, .ref m22, .ref m23, .int v24, .ref m25, .ref m26, .ref m27, .ref m28, .ref m29, .int v30, .ref m31, .ref m32, .ref m33, .int v34, .int v35, .int v36, .ref m37, .ref m38, .ref m39, .ref m40, .long v41])), (m26, .inl (k 0, 8, .inl o_2))]) hP hD [0, 5] [1, 2, 3, 4] rfl rfl (by decide) (by decide) hk1 hFc hP1 hD1
  clear hK1 hP1 hD1 hPc hDc hFc
  clear hk1 hz1 ht hvm
  have hP : va_P D vwCl [(m17, .inl (k 0, 30, .inl f17)), (m18, .inl (k 0, 250, .inl f18)), (m19, .inl (k 0, 40, .inl f19)), (m25, .inl (k 0, 4, .inl f25)), (mo, .inr (12, [.int v0, .ref m1, .ref m2, .ref m3, .ref m4, .ref m5, .int v6, .int v7, .int v8, .int v9, .int v10, .long v11, .int v12, .int v13, .int v14, .int v15, .ref m16, .ref m17, .ref m18, .ref m19, .ref m20, .ref m21, .ref m22, .ref m23, .int v24, .ref m25, .ref m26, .ref m27, .ref m28, .ref m29, .int v30, .ref m31, .ref m32, .ref m33, .int v34, .int v35, .int v36, .ref m37, .ref m38, .ref m39, .ref m40, .long v41])), (m26, .inl (k 0, 8, .inl o_2))] H1 := hP
  have hD : va_D A [(m17, .inl (k 0, 30, .inl f17)), (m18, .inl (k 0, 250, .inl f18)), (m19, .inl (k 0, 40, .inl f19)), (m25, .inl (k 0, 4, .inl f25)), (mo, .inr (12, [.int v0, .ref m1, .ref m2, .ref m3, .ref m4, .ref m5, .int v6, .int v7, .int v8, .int v9, .int v10, .long v11, .int v12, .int v13, .int v14, .int v15, .ref m16, .ref m17, .ref m18, .ref m19, .ref m20, .ref m21, .ref m22, .ref m23, .int v24, .ref m25, .ref m26, .ref m27, .ref m28, .ref m29, .int v30, .ref m31, .ref m32, .ref m33, .int v34, .int v35, .int v36, .ref m37, .ref m38, .ref m39, .ref m40, .long v41])), (m26, .inl (k 0, 8, .inl o_2))] := hD
  generalize H1 = H at hP hS ⊢
  have hw_3 : (PR 8 1 0 0 100000 o_2) := hw
  have hw_4 := hw_3
  clear hw
  refine lv_iconst (v := 0) hx hb dX12_darkens_4 (by decide) ?_
  refine lv_istore_n (lv' := [(3, .int 0), (0, .ref mo), (1, .int p0), (2, .int p1)]) hx hb dX12_darkens_5 rfl hl (by decide) rfl (fun ls hl => ?_)
  refine loop_r (Wg := fun H locs ls => W p l e _ s m _ below meth c H locs _ _ _ (F0 m 6 ls [])) (fun n9 H locs ls => ∃ (L6l3 : Int32) (L6a5 : Nat → Int32), n9 = (4 - L6l3.toInt).toNat ∧ (0 ≤ L6l3.toInt ∧ L6l3.toInt ≤ 4) ∧ (PR 8 1 0 0 100000 L6a5) ∧ va_P D vwCl [(m17, .inl (k 0, 30, .inl f17)), (m18, .inl (k 0, 250, .inl f18)), (m19, .inl (k 0, 40, .inl f19)), (m25, .inl (k 0, 4, .inl f25)), (mo, .inr (12, [.int v0, .ref m1, .ref m2, .ref m3, .ref m4, .ref m5, .int v6, .int v7, .int v8, .int v9, .int v10, .long v11, .int v12, .int v13, .int v14, .int v15, .ref m16, .ref m17, .ref m18, .ref m19, .ref m20, .ref m21, .ref m22, .ref m23, .int v24, .ref m25, .ref m26, .ref m27, .ref m28, .ref m29, .int v30, .ref m31, .ref m32, .ref m33, .int v34, .int v35, .int v36, .ref m37, .ref m38, .ref m39, .ref m40, .long v41])), (m26, .inl (k 0, 8, .inl L6a5))] H ∧ va_D A [(m17, .inl (k 0, 30, .inl f17)), (m18, .inl (k 0, 250, .inl f18)), (m19, .inl (k 0, 40, .inl f19)), (m25, .inl (k 0, 4, .inl f25)), (mo, .inr (12, [.int v0, .ref m1, .ref m2, .ref m3, .ref m4, .ref m5, .int v6, .int v7, .int v8, .int v9, .int v10, .long v11, .int v12, .int v13, .int v14, .int v15, .ref m16, .ref m17, .ref m18, .ref m19, .ref m20, .ref m21, .ref m22, .ref m23, .int v24, .ref m25, .ref m26, .ref m27, .ref m28, .ref m29, .int v30, .ref m31, .ref m32, .ref m33, .int v34, .int v35, .int v36, .ref m37, .ref m38, .ref m39, .ref m40, .long v41])), (m26, .inl (k 0, 8, .inl L6a5))] ∧ va_S A s.heap H locs ∧ lv_has ls 4 [(0, .ref mo), (1, .int p0), (2, .int p1), (3, .int L6l3)]) (fun n9 H locs ls hI ih_5 => ?_) _ _ _ _ ⟨0, o_2, rfl, (show 0 ≤ 0 ∧ 0 ≤ 4 from by omega), hw_4, hP.sub (ws' := [(m17, .inl (k 0, 30, .inl f17)), (m18, .inl (k 0, 250, .inl f18)), (m19, .inl (k 0, 40, .inl f19)), (m25, .inl (k 0, 4, .inl f25)), (mo, .inr (12, [.int v0, .ref m1, .ref m2, .ref m3, .ref m4, .ref m5, .int v6, .int v7, .int v8, .int v9, .int v10, .long v11, .int v12, .int v13, .int v14, .int v15, .ref m16, .ref m17, .ref m18, .ref m19, .ref m20, .ref m21, .ref m22, .ref m23, .int v24, .ref m25, .ref m26, .ref m27, .ref m28, .ref m29, .int v30, .ref m31, .ref m32, .ref m33, .int v34, .int v35, .int v36, .ref m37, .ref m38, .ref m39, .ref m40, .long v41])), (m26, .inl (k 0, 8, .inl o_2))]) [0, 1, 2, 3, 4, 5] rfl, hD.sub (ws' := [(m17, .inl (k 0, 30, .inl f17)), (m18, .inl (k 0, 250, .inl f18)), (m19, .inl (k 0, 40, .inl f19)), (m25, .inl (k 0, 4, .inl f25)), (mo, .inr (12, [.int v0, .ref m1, .ref m2, .ref m3, .ref m4, .ref m5, .int v6, .int v7, .int v8, .int v9, .int v10, .long v11, .int v12, .int v13, .int v14, .int v15, .ref m16, .ref m17, .ref m18, .ref m19, .ref m20, .ref m21, .ref m22, .ref m23, .int v24, .ref m25, .ref m26, .ref m27, .ref m28, .ref m29, .int v30, .ref m31, .ref m32, .ref m33, .int v34, .int v35, .int v36, .ref m37, .ref m38, .ref m39, .ref m40, .long v41])), (m26, .inl (k 0, 8, .inl o_2))]) [0, 1, 2, 3, 4, 5] (by decide) rfl, hS, lv_sub hl [1, 2, 3, 0] rfl⟩
  clear hP hD hS hl
  obtain ⟨L6l3, L6a5, en_6, zL6l3, L6a5h0, hP, hD, hS, hl⟩ := hI
  refine lv_iload_n hx hb dX12_darkens_6 rfl (lv_at hl 3 rfl) ?_
  refine lv_aload_n hx hb dX12_darkens_7 rfl (lv_at hl 0 rfl) ?_
  refine va_get (D := D) (ci := 12) (v := .ref m17) (C := RX12) (T := TX12) (N := 42) hx hb hts iT_X12 hown hK hP 4 rfl rfl 17 (by decide) (hts _ tw_6_70) (fun _ h9 => h9) rfl dX12_darkens_8 ?_
  refine lv_iconst (v := 2) hx hb dX12_darkens_11 (by decide) ?_
  refine va_iald hx hb hK hP 0 0 rfl rfl (z_in (by decide) (by decide)) dX12_darkens_12 ?_
  refine lv_topi (fun x_7 ex_7 => ?_)
  have zx_7r2 : 0 ≤ x_7.toInt ∧ x_7.toInt ≤ 4 := by rw [ex_7]; exact PR.ld hp_f17_2 (by decide) (by decide) (by decide)
  refine lv_icmp_ge (tgt := 40) hx hb dX12_darkens_13 (by decide) (fun h_8 => ?_) (fun h_8 => ?_)
  · skip
    have zh_8 : x_7.toInt ≤ L6l3.toInt := z_le h_8
    refine lv_aload_n hx hb dX12_darkens_40 rfl (lv_at hl 0 rfl) ?_
    refine lv_iload_n hx hb dX12_darkens_41 rfl (lv_at hl 1 rfl) ?_
    refine lv_iload_n hx hb dX12_darkens_42 rfl (lv_at hl 2 rfl) ?_
    have hPc := hP.sub (ws' := [(mo, .inr (12, [.int v0, .ref m1, .ref m2, .ref m3, .ref m4, .ref m5, .int v6, .int v7, .int v8, .int v9, .int v10, .long v11, .int v12, .int v13, .int v14, .int v15, .ref m16, .ref m17, .ref m18, .ref m19, .ref m20, .ref m21, .ref m22, .ref m23, .int v24, .ref m25, .ref m26, .ref m27, .ref m28, .ref m29, .int v30, .ref m31, .ref m32, .ref m33, .int v34, .int v35, .int v36, .ref m37, .ref m38, .ref m39, .ref m40, .long v41])), (m17, .inl (k 0, 30, .inl f17)), (m18, .inl (k 0, 250, .inl f18)), (m26, .inl (k 0, 8, .inl L6a5))]) [4, 0, 1, 5] rfl
    have hDc := hD.sub (ws' := [(mo, .inr (12, [.int v0, .ref m1, .ref m2, .ref m3, .ref m4, .ref m5, .int v6, .int v7, .int v8, .int v9, .int v10, .long v11, .int v12, .int v13, .int v14, .int v15, .ref m16, .ref m17, .ref m18, .ref m19, .ref m20, .ref m21, .ref m22, .ref m23, .int v24, .ref m25, .ref m26, .ref m27, .ref m28, .ref m29, .int v30, .ref m31, .ref m32, .ref m33, .int v34, .int v35, .int v36, .ref m37, .ref m38, .ref m39, .ref m40, .long v41])), (m17, .inl (k 0, 30, .inl f17)), (m18, .inl (k 0, 250, .inl f18)), (m26, .inl (k 0, 8, .inl L6a5))]) [4, 0, 1, 5] (by decide) rfl
    have hFc := va_free (wc := [(mo, .inr (12, [.int v0, .ref m1, .ref m2, .ref m3, .ref m4, .ref m5, .int v6, .int v7, .int v8, .int v9, .int v10, .long v11, .int v12, .int v13, .int v14, .int v15, .ref m16, .ref m17, .ref m18, .ref m19, .ref m20, .ref m21, .ref m22, .ref m23, .int v24, .ref m25, .ref m26, .ref m27, .ref m28, .ref m29, .int v30, .ref m31, .ref m32, .ref m33, .int v34, .int v35, .int v36, .ref m37, .ref m38, .ref m39, .ref m40, .long v41])), (m17, .inl (k 0, 30, .inl f17)), (m18, .inl (k 0, 250, .inl f18)), (m26, .inl (k 0, 8, .inl L6a5))]) hD hS hA [4, 0, 1, 5] rfl
    refine va_callv (va_runV (C := RX12) (As := [.int p0, .int p1]) (rest := []) ⟨hx, hb, hml, hown, hts⟩ (c_X12_lowers l D k mo p0 p1 v0 m1 m2 m3 m4 m5 v6 v7 v8 v9 v10 v11 v12 v13 v14 v15 m16 m17 m18 m19 m20 m21 m22 m23 v24 m25 m26 m27 m28 m29 v30 m31 m32 m33 v34 v35 v36 m37 m38 m39 m40 v41 f17 f18 L6a5 H.size (show 0 ≤ v6.toInt ∧ v6.toInt ≤ 1000 from by omega) (show 0 ≤ v24.toInt ∧ v24.toInt ≤ 1023 from by omega) hp_f17_0 hp_f17_1 hp_f17_2 hp_f17_3 hp_f17_4 hp_f17_5 hp_f18_0 hp_f18_1 hp_f18_2 hp_f18_3 L6a5h0) (cwV 2 hts (gV tw_7_153 tw_7_155 tw_p_67 tw_1_13 tw_7_156) rfl rfl rfl hdV_X12_lowers ⟨Nat.le_of_ble_eq_true rfl, Nat.le_of_ble_eq_true rfl⟩) (cz_V hK hPc hDc hN (ci := 12) (q0 := 0) rfl rfl [.int p0, .int p1]) rfl rfl hl.1 rfl (lv_room (Nat.le_of_ble_eq_true rfl)) dX12_darkens_43 ⟨Nat.le_of_ble_eq_true rfl, Nat.le_of_ble_eq_true rfl⟩) hS (fun q _ h => hFc q h) hFc (fun uZ tZ H1 locs ht hvm hw hB hz1 hk1 hS => ?_)
    obtain ⟨o_10, rfl⟩ : ∃ z, z = uZ := ⟨_, rfl⟩
    obtain ⟨hP1, hK1, hD1⟩ := hB
    rw [ht] at hP1
    obtain ⟨hP, hD⟩ := va_join (wr := [(m19, .inl (k 0, 40, .inl f19)), (m25, .inl (k 0, 4, .inl f25))]) (w1 := [(mo, .inr (12, [.int v0, .ref m1, .ref m2, .ref m3, .ref m4, .ref m5, .int v6, .int v7, .int v8, .int v9, .int v10, .long v11, .int v12, .int v13, .int v14, .int v15, .ref m16, .ref m17, .ref m18, .ref m19, .ref m20, .ref m21, .ref m22, .ref m23, .int v24, .ref m25, .ref m26, .ref m27, .ref m28, .ref m29, .int v30, .ref m31, .ref m32, .ref m33, .int v34, .int v35, .int v36, .ref m37, .ref m38, .ref m39, .ref m40, .long v41])), (m17, .inl (k 0, 30, .inl f17)), (m18, .inl (k 0, 250, .inl f18)), (m26, .inl (k 0, 8, .inl o_10))]) hP hD [4, 0, 1, 5] [2, 3] rfl rfl (by decide) (by decide) hk1 hFc hP1 hD1
    clear hK1 hP1 hD1 hPc hDc hFc
    clear hk1 hz1 ht hvm
    have hP : va_P D vwCl [(m19, .inl (k 0, 40, .inl f19)), (m25, .inl (k 0, 4, .inl f25)), (mo, .inr (12, [.int v0, .ref m1, .ref m2, .ref m3, .ref m4, .ref m5, .int v6, .int v7, .int v8, .int v9, .int v10, .long v11, .int v12, .int v13, .int v14, .int v15, .ref m16, .ref m17, .ref m18, .ref m19, .ref m20, .ref m21, .ref m22, .ref m23, .int v24, .ref m25, .ref m26, .ref m27, .ref m28, .ref m29, .int v30, .ref m31, .ref m32, .ref m33, .int v34, .int v35, .int v36, .ref m37, .ref m38, .ref m39, .ref m40, .long v41])), (m17, .inl (k 0, 30, .inl f17)), (m18, .inl (k 0, 250, .inl f18)), (m26, .inl (k 0, 8, .inl o_10))] H1 := hP
    have hD : va_D A [(m19, .inl (k 0, 40, .inl f19)), (m25, .inl (k 0, 4, .inl f25)), (mo, .inr (12, [.int v0, .ref m1, .ref m2, .ref m3, .ref m4, .ref m5, .int v6, .int v7, .int v8, .int v9, .int v10, .long v11, .int v12, .int v13, .int v14, .int v15, .ref m16, .ref m17, .ref m18, .ref m19, .ref m20, .ref m21, .ref m22, .ref m23, .int v24, .ref m25, .ref m26, .ref m27, .ref m28, .ref m29, .int v30, .ref m31, .ref m32, .ref m33, .int v34, .int v35, .int v36, .ref m37, .ref m38, .ref m39, .ref m40, .long v41])), (m17, .inl (k 0, 30, .inl f17)), (m18, .inl (k 0, 250, .inl f18)), (m26, .inl (k 0, 8, .inl o_10))] := hD
    generalize H1 = H at hP hS ⊢
    clear hw
    have hP9 := hP.sub (ws' := [(mo, .inr (12, [.int v0, .ref m1, .ref m2, .ref m3, .ref m4, .ref m5, .int v6, .int v7, .int v8, .int v9, .int v10, .long v11, .int v12, .int v13, .int v14, .int v15, .ref m16, .ref m17, .ref m18, .ref m19, .ref m20, .ref m21, .ref m22, .ref m23, .int v24, .ref m25, .ref m26, .ref m27, .ref m28, .ref m29, .int v30, .ref m31, .ref m32, .ref m33, .int v34, .int v35, .int v36, .ref m37, .ref m38, .ref m39, .ref m40, .long v41])), (m17, .inl (k 0, 30, .inl f17)), (m18, .inl (k 0, 250, .inl f18)), (m19, .inl (k 0, 40, .inl f19)), (m25, .inl (k 0, 4, .inl f25)), (m26, .inl (k 0, 8, .inl o_10))]) [2, 3, 4, 0, 1, 5] rfl
    have hD9 := hD.sub (ws' := [(mo, .inr (12, [.int v0, .ref m1, .ref m2, .ref m3, .ref m4, .ref m5, .int v6, .int v7, .int v8, .int v9, .int v10, .long v11, .int v12, .int v13, .int v14, .int v15, .ref m16, .ref m17, .ref m18, .ref m19, .ref m20, .ref m21, .ref m22, .ref m23, .int v24, .ref m25, .ref m26, .ref m27, .ref m28, .ref m29, .int v30, .ref m31, .ref m32, .ref m33, .int v34, .int v35, .int v36, .ref m37, .ref m38, .ref m39, .ref m40, .long v41])), (m17, .inl (k 0, 30, .inl f17)), (m18, .inl (k 0, 250, .inl f18)), (m19, .inl (k 0, 40, .inl f19)), (m25, .inl (k 0, 4, .inl f25)), (m26, .inl (k 0, 8, .inl o_10))]) [2, 3, 4, 0, 1, 5] (by decide) rfl
    exact W.vret hx hb hr (fun tZ ht hW => ⟨⟨o_10, rfl, trivial, by rw [ht]; exact hP9, va_K.moved hW.alike hK, hD9⟩, hS.F ht⟩) hS.2.2 dX12_darkens_46
  · skip
    have zh_8 : L6l3.toInt < x_7.toInt := z_nle h_8
    refine lv_aload_n hx hb dX12_darkens_16 rfl (lv_at hl 0 rfl) ?_
    refine lv_aload_n hx hb dX12_darkens_17 rfl (lv_at hl 0 rfl) ?_
    refine va_get (D := D) (ci := 12) (v := .ref m19) (C := RX12) (T := TX12) (N := 42) hx hb hts iT_X12 hown hK hP 4 rfl rfl 19 (by decide) (hts _ tw_6_72) (fun _ h9 => h9) rfl dX12_darkens_18 ?_
    refine lv_iconst (v := 2) hx hb dX12_darkens_21 (by decide) ?_
    refine lv_iload_n hx hb dX12_darkens_22 rfl (lv_at hl 3 rfl) ?_
    refine lv_imul hx hb dX12_darkens_23 ?_
    refine lv_topi (fun x_12 ex_12 => ?_)
    have zx_12 : x_12.toInt = 2 * L6l3.toInt := by rw [ex_12]; exact z_mul rfl rfl (by omega) (by omega)
    refine va_iald hx hb hK hP 2 0 rfl rfl (z_in (by omega) (by omega)) dX12_darkens_24 ?_
    refine lv_topi (fun x_13 ex_13 => ?_)
    have zx_13r0 : 0 ≤ x_13.toInt ∧ x_13.toInt ≤ 7 := by rw [ex_13]; exact PR.ld hp_f19_0 (by omega) (by omega) (by omega)
    refine lv_aload_n hx hb dX12_darkens_25 rfl (lv_at hl 0 rfl) ?_
    refine va_get (D := D) (ci := 12) (v := .ref m25) (C := RX12) (T := TX12) (N := 42) hx hb hts iT_X12 hown hK hP 4 rfl rfl 25 (by decide) (hts _ tw_6_78) (fun _ h9 => h9) rfl dX12_darkens_26 ?_
    refine lv_iload_n hx hb dX12_darkens_29 rfl (lv_at hl 3 rfl) ?_
    refine va_iald hx hb hK hP 3 0 rfl rfl (z_in (by omega) (by omega)) dX12_darkens_30 ?_
    refine lv_topi (fun x_14 ex_14 => ?_)
    have zx_14r0 : 0 ≤ x_14.toInt ∧ x_14.toInt ≤ 129 := by rw [ex_14]; exact PR.ld hp_f25_0 (by omega) (by omega) (by omega)
    have hPc := hP.sub (ws' := [(mo, .inr (12, [.int v0, .ref m1, .ref m2, .ref m3, .ref m4, .ref m5, .int v6, .int v7, .int v8, .int v9, .int v10, .long v11, .int v12, .int v13, .int v14, .int v15, .ref m16, .ref m17, .ref m18, .ref m19, .ref m20, .ref m21, .ref m22, .ref m23, .int v24, .ref m25, .ref m26, .ref m27, .ref m28, .ref m29, .int v30, .ref m31, .ref m32, .ref m33, .int v34, .int v35, .int v36, .ref m37, .ref m38, .ref m39, .ref m40, .long v41])), (m26, .inl (k 0, 8, .inl L6a5))]) [4, 5] rfl
    have hDc := hD.sub (ws' := [(mo, .inr (12, [.int v0, .ref m1, .ref m2, .ref m3, .ref m4, .ref m5, .int v6, .int v7, .int v8, .int v9, .int v10, .long v11, .int v12, .int v13, .int v14, .int v15, .ref m16, .ref m17, .ref m18, .ref m19, .ref m20, .ref m21, .ref m22, .ref m23, .int v24, .ref m25, .ref m26, .ref m27, .ref m28, .ref m29, .int v30, .ref m31, .ref m32, .ref m33, .int v34, .int v35, .int v36, .ref m37, .ref m38, .ref m39, .ref m40, .long v41])), (m26, .inl (k 0, 8, .inl L6a5))]) [4, 5] (by decide) rfl
    have hFc := va_free (wc := [(mo, .inr (12, [.int v0, .ref m1, .ref m2, .ref m3, .ref m4, .ref m5, .int v6, .int v7, .int v8, .int v9, .int v10, .long v11, .int v12, .int v13, .int v14, .int v15, .ref m16, .ref m17, .ref m18, .ref m19, .ref m20, .ref m21, .ref m22, .ref m23, .int v24, .ref m25, .ref m26, .ref m27, .ref m28, .ref m29, .int v30, .ref m31, .ref m32, .ref m33, .int v34, .int v35, .int v36, .ref m37, .ref m38, .ref m39, .ref m40, .long v41])), (m26, .inl (k 0, 8, .inl L6a5))]) hD hS hA [4, 5] rfl
    refine va_callv (va_runV (C := RX12) (As := [.int x_13, .int x_14]) (rest := []) ⟨hx, hb, hml, hown, hts⟩ (c_X12_begins_ l D k mo x_13 x_14 v0 m1 m2 m3 m4 m5 v6 v7 v8 v9 v10 v11 v12 v13 v14 v15 m16 m17 m18 m19 m20 m21 m22 m23 v24 m25 m26 m27 m28 m29 v30 m31 m32 m33 v34 v35 v36 m37 m38 m39 m40 v41 L6a5 H.size (show 0 ≤ x_13.toInt ∧ x_13.toInt ≤ 7 from by omega) (show 0 ≤ x_14.toInt ∧ x_14.toInt ≤ 999 from by omega) (show 0 ≤ v6.toInt ∧ v6.toInt ≤ 1000 from by omega) (show 0 ≤ v24.toInt ∧ v24.toInt ≤ 1023 from by omega) L6a5h0) (cwV 2 hts (gV tw_7_149 tw_7_151 tw_p_66 tw_1_13 tw_7_152) rfl rfl rfl hdV_X12_begins_ ⟨Nat.le_of_ble_eq_true rfl, Nat.le_of_ble_eq_true rfl⟩) (cz_V hK hPc hDc hN (ci := 12) (q0 := 0) rfl rfl [.int x_13, .int x_14]) rfl rfl hl.1 rfl (lv_room (Nat.le_of_ble_eq_true rfl)) dX12_darkens_31 ⟨Nat.le_of_ble_eq_true rfl, Nat.le_of_ble_eq_true rfl⟩) hS (fun q _ h => hFc q h) hFc (fun uZ tZ H1 locs ht hvm hw hB hz1 hk1 hS => ?_)
    obtain ⟨o_16, rfl⟩ : ∃ z, z = uZ := ⟨_, rfl⟩
    obtain ⟨hP1, hK1, hD1⟩ := hB
    rw [ht] at hP1
    obtain ⟨hP, hD⟩ := va_join (wr := [(m17, .inl (k 0, 30, .inl f17)), (m18, .inl (k 0, 250, .inl f18)), (m19, .inl (k 0, 40, .inl f19)), (m25, .inl (k 0, 4, .inl f25))]) (w1 := [(mo, .inr (12, [.int v0, .ref m1, .ref m2, .ref m3, .ref m4, .ref m5, .int v6, .int v7, .int v8, .int v9, .int v10, .long v11, .int v12, .int v13, .int v14, .int v15, .ref m16, .ref m17, .ref m18, .ref m19, .ref m20, .ref m21, .ref m22, .ref m23, .int v24, .ref m25, .ref m26, .ref m27, .ref m28, .ref m29, .int v30, .ref m31, .ref m32, .ref m33, .int v34, .int v35, .int v36, .ref m37, .ref m38, .ref m39, .ref m40, .long v41])), (m26, .inl (k 0, 8, .inl o_16))]) hP hD [4, 5] [0, 1, 2, 3] rfl rfl (by decide) (by decide) hk1 hFc hP1 hD1
    clear hK1 hP1 hD1 hPc hDc hFc
    clear hk1 hz1 ht hvm
    have hP : va_P D vwCl [(m17, .inl (k 0, 30, .inl f17)), (m18, .inl (k 0, 250, .inl f18)), (m19, .inl (k 0, 40, .inl f19)), (m25, .inl (k 0, 4, .inl f25)), (mo, .inr (12, [.int v0, .ref m1, .ref m2, .ref m3, .ref m4, .ref m5, .int v6, .int v7, .int v8, .int v9, .int v10, .long v11, .int v12, .int v13, .int v14, .int v15, .ref m16, .ref m17, .ref m18, .ref m19, .ref m20, .ref m21, .ref m22, .ref m23, .int v24, .ref m25, .ref m26, .ref m27, .ref m28, .ref m29, .int v30, .ref m31, .ref m32, .ref m33, .int v34, .int v35, .int v36, .ref m37, .ref m38, .ref m39, .ref m40, .long v41])), (m26, .inl (k 0, 8, .inl o_16))] H1 := hP
    have hD : va_D A [(m17, .inl (k 0, 30, .inl f17)), (m18, .inl (k 0, 250, .inl f18)), (m19, .inl (k 0, 40, .inl f19)), (m25, .inl (k 0, 4, .inl f25)), (mo, .inr (12, [.int v0, .ref m1, .ref m2, .ref m3, .ref m4, .ref m5, .int v6, .int v7, .int v8, .int v9, .int v10, .long v11, .int v12, .int v13, .int v14, .int v15, .ref m16, .ref m17, .ref m18, .ref m19, .ref m20, .ref m21, .ref m22, .ref m23, .int v24, .ref m25, .ref m26, .ref m27, .ref m28, .ref m29, .int v30, .ref m31, .ref m32, .ref m33, .int v34, .int v35, .int v36, .ref m37, .ref m38, .ref m39, .ref m40, .long v41])), (m26, .inl (k 0, 8, .inl o_16))] := hD
    generalize H1 = H at hP hS ⊢
    have hw_17 : (PR 8 1 0 0 100000 o_16) := hw
    have hw_18 := hw_17
    clear hw
    obtain ⟨x_19, ex_19⟩ : ∃ y : Int32, y = L6l3 + 1 := ⟨_, rfl⟩
    have zx_19 : x_19.toInt = L6l3.toInt + 1 := by rw [ex_19]; exact z_add rfl rfl (by omega) (by omega)
    refine lv_iinc (v := x_19) (lv' := [(3, .int x_19), (0, .ref mo), (1, .int p0), (2, .int p1)]) hx hb dX12_darkens_34 hl (k := 3) rfl (by rw [ex_19]; rfl) (by decide) rfl (fun ls hl => ?_)
    refine lv_goto (tgt := 6) hx hb dX12_darkens_37 (by decide) ?_
    exact ih_5 _ _ _ _ (by omega) ⟨x_19, o_16, rfl, (show 0 ≤ x_19.toInt ∧ x_19.toInt ≤ 4 from by omega), hw_18, hP.sub (ws' := [(m17, .inl (k 0, 30, .inl f17)), (m18, .inl (k 0, 250, .inl f18)), (m19, .inl (k 0, 40, .inl f19)), (m25, .inl (k 0, 4, .inl f25)), (mo, .inr (12, [.int v0, .ref m1, .ref m2, .ref m3, .ref m4, .ref m5, .int v6, .int v7, .int v8, .int v9, .int v10, .long v11, .int v12, .int v13, .int v14, .int v15, .ref m16, .ref m17, .ref m18, .ref m19, .ref m20, .ref m21, .ref m22, .ref m23, .int v24, .ref m25, .ref m26, .ref m27, .ref m28, .ref m29, .int v30, .ref m31, .ref m32, .ref m33, .int v34, .int v35, .int v36, .ref m37, .ref m38, .ref m39, .ref m40, .long v41])), (m26, .inl (k 0, 8, .inl o_16))]) [0, 1, 2, 3, 4, 5] rfl, hD.sub (ws' := [(m17, .inl (k 0, 30, .inl f17)), (m18, .inl (k 0, 250, .inl f18)), (m19, .inl (k 0, 40, .inl f19)), (m25, .inl (k 0, 4, .inl f25)), (mo, .inr (12, [.int v0, .ref m1, .ref m2, .ref m3, .ref m4, .ref m5, .int v6, .int v7, .int v8, .int v9, .int v10, .long v11, .int v12, .int v13, .int v14, .int v15, .ref m16, .ref m17, .ref m18, .ref m19, .ref m20, .ref m21, .ref m22, .ref m23, .int v24, .ref m25, .ref m26, .ref m27, .ref m28, .ref m29, .int v30, .ref m31, .ref m32, .ref m33, .int v34, .int v35, .int v36, .ref m37, .ref m38, .ref m39, .ref m40, .long v41])), (m26, .inl (k 0, 8, .inl o_16))]) [0, 1, 2, 3, 4, 5] (by decide) rfl, hS, lv_sub hl [1, 2, 3, 0] rfl⟩
set_option maxHeartbeats 4000000 in
set_option maxRecDepth 100000 in
theorem c_X12_comesTo (l : Launch) (D : va_G) (k : Nat → ClassId) (mo : Nat) (p0 : Int32) (v0 : Int32) (m1 : Nat) (m2 : Nat) (m3 : Nat) (m4 : Nat) (m5 : Nat) (v6 : Int32) (v7 : Int32) (v8 : Int32) (v9 : Int32) (v10 : Int32) (v11 : Int64) (v12 : Int32) (v13 : Int32) (v14 : Int32) (v15 : Int32) (m16 : Nat) (m17 : Nat) (m18 : Nat) (m19 : Nat) (m20 : Nat) (m21 : Nat) (m22 : Nat) (m23 : Nat) (v24 : Int32) (m25 : Nat) (m26 : Nat) (m27 : Nat) (m28 : Nat) (m29 : Nat) (v30 : Int32) (m31 : Nat) (m32 : Nat) (m33 : Nat) (v34 : Int32) (v35 : Int32) (v36 : Int32) (m37 : Nat) (m38 : Nat) (m39 : Nat) (m40 : Nat) (v41 : Int64) (f26 : Nat → Int32) (sz : Nat) (h_p0 : 0 ≤ p0.toInt ∧ p0.toInt ≤ 7) (h_v6 : 0 ≤ v6.toInt ∧ v6.toInt ≤ 1000) (h_v24 : 0 ≤ v24.toInt ∧ v24.toInt ≤ 1023) (hp_f26_0 : PR 8 1 0 0 100000 f26) : Met l yX12_comesTo (ww yX12_comesTo cX12_comesTo 2 (some .int)) ({ frames := 0, cells := 0, slots := 0, locals := 0 }) (Pre0 D k [(mo, .inr (12, [.int v0, .ref m1, .ref m2, .ref m3, .ref m4, .ref m5, .int v6, .int v7, .int v8, .int v9, .int v10, .long v11, .int v12, .int v13, .int v14, .int v15, .ref m16, .ref m17, .ref m18, .ref m19, .ref m20, .ref m21, .ref m22, .ref m23, .int v24, .ref m25, .ref m26, .ref m27, .ref m28, .ref m29, .int v30, .ref m31, .ref m32, .ref m33, .int v34, .int v35, .int v36, .ref m37, .ref m38, .ref m39, .ref m40, .long v41])), (m26, .inl (k 0, 8, .inl f26))] sz [.ref mo, .int p0]) (va_Qi (fun (r : Int32) (_ : Unit) => ((-1) ≤ r.toInt ∧ r.toInt ≤ 99999)) (fun (_ : Unit) tZ => Bw D k (va_A [(mo, .inr (12, [.int v0, .ref m1, .ref m2, .ref m3, .ref m4, .ref m5, .int v6, .int v7, .int v8, .int v9, .int v10, .long v11, .int v12, .int v13, .int v14, .int v15, .ref m16, .ref m17, .ref m18, .ref m19, .ref m20, .ref m21, .ref m22, .ref m23, .int v24, .ref m25, .ref m26, .ref m27, .ref m28, .ref m29, .int v30, .ref m31, .ref m32, .ref m33, .int v34, .int v35, .int v36, .ref m37, .ref m38, .ref m39, .ref m40, .long v41])), (m26, .inl (k 0, 8, .inl f26))] sz) [(mo, .inr (12, [.int v0, .ref m1, .ref m2, .ref m3, .ref m4, .ref m5, .int v6, .int v7, .int v8, .int v9, .int v10, .long v11, .int v12, .int v13, .int v14, .int v15, .ref m16, .ref m17, .ref m18, .ref m19, .ref m20, .ref m21, .ref m22, .ref m23, .int v24, .ref m25, .ref m26, .ref m27, .ref m28, .ref m29, .int v30, .ref m31, .ref m32, .ref m33, .int v34, .int v35, .int v36, .ref m37, .ref m38, .ref m39, .ref m40, .long v41])), (m26, .inl (k 0, 8, .inl f26))] tZ) (va_A [(mo, .inr (12, [.int v0, .ref m1, .ref m2, .ref m3, .ref m4, .ref m5, .int v6, .int v7, .int v8, .int v9, .int v10, .long v11, .int v12, .int v13, .int v14, .int v15, .ref m16, .ref m17, .ref m18, .ref m19, .ref m20, .ref m21, .ref m22, .ref m23, .int v24, .ref m25, .ref m26, .ref m27, .ref m28, .ref m29, .int v30, .ref m31, .ref m32, .ref m33, .int v34, .int v35, .int v36, .ref m37, .ref m38, .ref m39, .ref m40, .long v41])), (m26, .inl (k 0, 8, .inl f26))] sz)) 0 0 (va_A [(mo, .inr (12, [.int v0, .ref m1, .ref m2, .ref m3, .ref m4, .ref m5, .int v6, .int v7, .int v8, .int v9, .int v10, .long v11, .int v12, .int v13, .int v14, .int v15, .ref m16, .ref m17, .ref m18, .ref m19, .ref m20, .ref m21, .ref m22, .ref m23, .int v24, .ref m25, .ref m26, .ref m27, .ref m28, .ref m29, .int v30, .ref m31, .ref m32, .ref m33, .int v34, .int v35, .int v36, .ref m37, .ref m38, .ref m39, .ref m40, .long v41])), (m26, .inl (k 0, 8, .inl f26))] sz) := by
  refine Met.ofW (cc := cX12_comesTo) (maxL := 2) (ret := (some .int)) (by decide +kernel) rfl ?_
  intro p e s m args below meth c s₁ B hml hv
  obtain ⟨rfl, hsz, hP, hK, hD0, hN⟩ := hv
  have hx := B.exec
  have hb := B.bytes
  have hr := B.returns
  have hts : ∀ w ∈ TT, w.before _ s = true := fun w h => atoms_spec (ws := ww yX12_comesTo cX12_comesTo 2 (some .int)) B.pre w (List.mem_cons_of_mem _ h)
  have hown : s.vm.findClass RX12 = some m.cls := findClass_of_methodNamed B.named
  have hlocks := B.notSynchronized
  subst hsz
  have hD := hD0.self (sz := s.heap.size)
  generalize hAe : va_A [(mo, .inr (12, [.int v0, .ref m1, .ref m2, .ref m3, .ref m4, .ref m5, .int v6, .int v7, .int v8, .int v9, .int v10, .long v11, .int v12, .int v13, .int v14, .int v15, .ref m16, .ref m17, .ref m18, .ref m19, .ref m20, .ref m21, .ref m22, .ref m23, .int v24, .ref m25, .ref m26, .ref m27, .ref m28, .ref m29, .int v30, .ref m31, .ref m32, .ref m33, .int v34, .int v35, .int v36, .ref m37, .ref m38, .ref m39, .ref m40, .long v41])), (m26, .inl (k 0, 8, .inl f26))] s.heap.size = A at hD ⊢
  have hA : ∀ q : Nat, s.heap.size ≤ q → A q := fun q h => by rw [← hAe]; exact Or.inr h
  have hS : va_S A s.heap s.heap [] := va_S.rf
  have hl := lv_entry ([.ref mo, .int p0]) (n := 2) (Nat.le_of_ble_eq_true rfl)
  rw [lg_entry_eq]
  generalize (lg_sl ([.ref mo, .int p0]) ++ List.replicate (2 - (lg_sl ([.ref mo, .int p0])).length) Slot.unset).toArray = ls at hl ⊢
  have hl : lv_has ls 2 [(0, .ref mo), (1, .int p0)] := hl
  refine lv_aload_n hx hb dX12_comesTo_0 rfl (lv_at hl 0 rfl) ?_
  refine va_get (D := D) (ci := 12) (v := .ref m26) (C := RX12) (T := TX12) (N := 42) hx hb hts iT_X12 hown hK hP 0 rfl rfl 26 (by decide) (hts _ tw_6_79) (fun _ h9 => h9) rfl dX12_comesTo_1 ?_
  refine lv_iload_n hx hb dX12_comesTo_4 rfl (lv_at hl 1 rfl) ?_
  refine va_iald hx hb hK hP 1 0 rfl rfl (z_in (by omega) (by omega)) dX12_comesTo_5 ?_
  refine lv_topi (fun x_1 ex_1 => ?_)
  have zx_1r0 : 0 ≤ x_1.toInt ∧ x_1.toInt ≤ 100000 := by rw [ex_1]; exact PR.ld hp_f26_0 (by omega) (by omega) (by omega)
  refine lv_ldc (v := 100000) hx hb hown (hts _ tw_7_5) dX12_comesTo_6 ?_
  refine lv_icmp_lt (tgt := 15) hx hb dX12_comesTo_8 (by decide) (fun h_2 => ?_) (fun h_2 => ?_)
  · skip
    have zh_2 : x_1.toInt < 100000 := z_lt h_2
    refine lv_aload_n hx hb dX12_comesTo_15 rfl (lv_at hl 0 rfl) ?_
    refine va_get (D := D) (ci := 12) (v := .ref m26) (C := RX12) (T := TX12) (N := 42) hx hb hts iT_X12 hown hK hP 0 rfl rfl 26 (by decide) (hts _ tw_6_79) (fun _ h9 => h9) rfl dX12_comesTo_16 ?_
    refine lv_iload_n hx hb dX12_comesTo_19 rfl (lv_at hl 1 rfl) ?_
    refine va_iald hx hb hK hP 1 0 rfl rfl (z_in (by omega) (by omega)) dX12_comesTo_20 ?_
    refine lv_topi (fun x_3 ex_3 => ?_)
    obtain rfl : x_1 = x_3 := ex_1.trans ex_3.symm
    have hP9 := hP.sub (ws' := [(mo, .inr (12, [.int v0, .ref m1, .ref m2, .ref m3, .ref m4, .ref m5, .int v6, .int v7, .int v8, .int v9, .int v10, .long v11, .int v12, .int v13, .int v14, .int v15, .ref m16, .ref m17, .ref m18, .ref m19, .ref m20, .ref m21, .ref m22, .ref m23, .int v24, .ref m25, .ref m26, .ref m27, .ref m28, .ref m29, .int v30, .ref m31, .ref m32, .ref m33, .int v34, .int v35, .int v36, .ref m37, .ref m38, .ref m39, .ref m40, .long v41])), (m26, .inl (k 0, 8, .inl f26))]) [0, 1] rfl
    have hD9 := hD.sub (ws' := [(mo, .inr (12, [.int v0, .ref m1, .ref m2, .ref m3, .ref m4, .ref m5, .int v6, .int v7, .int v8, .int v9, .int v10, .long v11, .int v12, .int v13, .int v14, .int v15, .ref m16, .ref m17, .ref m18, .ref m19, .ref m20, .ref m21, .ref m22, .ref m23, .int v24, .ref m25, .ref m26, .ref m27, .ref m28, .ref m29, .int v30, .ref m31, .ref m32, .ref m33, .int v34, .int v35, .int v36, .ref m37, .ref m38, .ref m39, .ref m40, .long v41])), (m26, .inl (k 0, 8, .inl f26))]) [0, 1] (by decide) rfl
    exact W.iret (v := x_1) hx hb hr (fun tZ ht hW => ⟨⟨x_1, (), rfl, (show (-1) ≤ x_1.toInt ∧ x_1.toInt ≤ 99999 from by omega), by rw [ht]; exact hP9, va_K.moved hW.alike hK, hD9⟩, hS.F ht⟩) hS.2.2 dX12_comesTo_21
  · skip
    have zh_2 : 100000 ≤ x_1.toInt := z_nlt h_2
    refine lv_iconst (v := (-1)) hx hb dX12_comesTo_11 (by decide) ?_
    refine lv_goto (tgt := 21) hx hb dX12_comesTo_12 (by decide) ?_
    have hP9 := hP.sub (ws' := [(mo, .inr (12, [.int v0, .ref m1, .ref m2, .ref m3, .ref m4, .ref m5, .int v6, .int v7, .int v8, .int v9, .int v10, .long v11, .int v12, .int v13, .int v14, .int v15, .ref m16, .ref m17, .ref m18, .ref m19, .ref m20, .ref m21, .ref m22, .ref m23, .int v24, .ref m25, .ref m26, .ref m27, .ref m28, .ref m29, .int v30, .ref m31, .ref m32, .ref m33, .int v34, .int v35, .int v36, .ref m37, .ref m38, .ref m39, .ref m40, .long v41])), (m26, .inl (k 0, 8, .inl f26))]) [0, 1] rfl
    have hD9 := hD.sub (ws' := [(mo, .inr (12, [.int v0, .ref m1, .ref m2, .ref m3, .ref m4, .ref m5, .int v6, .int v7, .int v8, .int v9, .int v10, .long v11, .int v12, .int v13, .int v14, .int v15, .ref m16, .ref m17, .ref m18, .ref m19, .ref m20, .ref m21, .ref m22, .ref m23, .int v24, .ref m25, .ref m26, .ref m27, .ref m28, .ref m29, .int v30, .ref m31, .ref m32, .ref m33, .int v34, .int v35, .int v36, .ref m37, .ref m38, .ref m39, .ref m40, .long v41])), (m26, .inl (k 0, 8, .inl f26))]) [0, 1] (by decide) rfl
    exact W.iret (v := (-1)) hx hb hr (fun tZ ht hW => ⟨⟨(-1), (), rfl, (show (-1) ≤ (-1) ∧ (-1) ≤ 99999 from by omega), by rw [ht]; exact hP9, va_K.moved hW.alike hK, hD9⟩, hS.F ht⟩) hS.2.2 dX12_comesTo_21
set_option maxHeartbeats 4000000 in
set_option maxRecDepth 100000 in
theorem c_X12_house (l : Launch) (D : va_G) (k : Nat → ClassId) (mo : Nat) (p0 : Int32) (p1 : Int32) (v0 : Int32) (m1 : Nat) (m2 : Nat) (m3 : Nat) (m4 : Nat) (m5 : Nat) (v6 : Int32) (v7 : Int32) (v8 : Int32) (v9 : Int32) (v10 : Int32) (v11 : Int64) (v12 : Int32) (v13 : Int32) (v14 : Int32) (v15 : Int32) (m16 : Nat) (m17 : Nat) (m18 : Nat) (m19 : Nat) (m20 : Nat) (m21 : Nat) (m22 : Nat) (m23 : Nat) (v24 : Int32) (m25 : Nat) (m26 : Nat) (m27 : Nat) (m28 : Nat) (m29 : Nat) (v30 : Int32) (m31 : Nat) (m32 : Nat) (m33 : Nat) (v34 : Int32) (v35 : Int32) (v36 : Int32) (m37 : Nat) (m38 : Nat) (m39 : Nat) (m40 : Nat) (v41 : Int64) (f17 : Nat → Int32) (f20 : Nat → Int32) (sz : Nat) (h_v6 : 0 ≤ v6.toInt ∧ v6.toInt ≤ 1000) (h_v24 : 0 ≤ v24.toInt ∧ v24.toInt ≤ 1023) (hp_f17_0 : PR 30 6 0 0 8 f17) (hp_f17_1 : PR 30 6 1 0 10 f17) (hp_f17_2 : PR 30 6 2 0 4 f17) (hp_f17_3 : PR 30 6 3 0 6 f17) (hp_f17_4 : PR 30 6 4 0 2 f17) (hp_f17_5 : PR 30 6 5 0 40 f17) (hp_f20_0 : PR 120 4 0 0 7 f20) : Met l yX12_house (ww yX12_house cX12_house 3 (some .int)) ({ frames := 2, cells := 0, slots := 0, locals := 46 }) (Pre0 D k [(mo, .inr (12, [.int v0, .ref m1, .ref m2, .ref m3, .ref m4, .ref m5, .int v6, .int v7, .int v8, .int v9, .int v10, .long v11, .int v12, .int v13, .int v14, .int v15, .ref m16, .ref m17, .ref m18, .ref m19, .ref m20, .ref m21, .ref m22, .ref m23, .int v24, .ref m25, .ref m26, .ref m27, .ref m28, .ref m29, .int v30, .ref m31, .ref m32, .ref m33, .int v34, .int v35, .int v36, .ref m37, .ref m38, .ref m39, .ref m40, .long v41])), (m17, .inl (k 0, 30, .inl f17)), (m20, .inl (k 0, 120, .inl f20))] sz [.ref mo, .int p0, .int p1]) (va_Qi (fun (r : Int32) (v0z : Int32) => (0 ≤ v0z.toInt ∧ v0z.toInt ≤ 0)) (fun (v0z : Int32) tZ => Bw D k (va_A [(mo, .inr (12, [.int v0, .ref m1, .ref m2, .ref m3, .ref m4, .ref m5, .int v6, .int v7, .int v8, .int v9, .int v10, .long v11, .int v12, .int v13, .int v14, .int v15, .ref m16, .ref m17, .ref m18, .ref m19, .ref m20, .ref m21, .ref m22, .ref m23, .int v24, .ref m25, .ref m26, .ref m27, .ref m28, .ref m29, .int v30, .ref m31, .ref m32, .ref m33, .int v34, .int v35, .int v36, .ref m37, .ref m38, .ref m39, .ref m40, .long v41])), (m17, .inl (k 0, 30, .inl f17)), (m20, .inl (k 0, 120, .inl f20))] sz) [(mo, .inr (12, [.int v0z, .ref m1, .ref m2, .ref m3, .ref m4, .ref m5, .int v6, .int v7, .int v8, .int v9, .int v10, .long v11, .int v12, .int v13, .int v14, .int v15, .ref m16, .ref m17, .ref m18, .ref m19, .ref m20, .ref m21, .ref m22, .ref m23, .int v24, .ref m25, .ref m26, .ref m27, .ref m28, .ref m29, .int v30, .ref m31, .ref m32, .ref m33, .int v34, .int v35, .int v36, .ref m37, .ref m38, .ref m39, .ref m40, .long v41])), (m17, .inl (k 0, 30, .inl f17)), (m20, .inl (k 0, 120, .inl f20))] tZ) (va_A [(mo, .inr (12, [.int v0, .ref m1, .ref m2, .ref m3, .ref m4, .ref m5, .int v6, .int v7, .int v8, .int v9, .int v10, .long v11, .int v12, .int v13, .int v14, .int v15, .ref m16, .ref m17, .ref m18, .ref m19, .ref m20, .ref m21, .ref m22, .ref m23, .int v24, .ref m25, .ref m26, .ref m27, .ref m28, .ref m29, .int v30, .ref m31, .ref m32, .ref m33, .int v34, .int v35, .int v36, .ref m37, .ref m38, .ref m39, .ref m40, .long v41])), (m17, .inl (k 0, 30, .inl f17)), (m20, .inl (k 0, 120, .inl f20))] sz)) 0 0 (va_A [(mo, .inr (12, [.int v0, .ref m1, .ref m2, .ref m3, .ref m4, .ref m5, .int v6, .int v7, .int v8, .int v9, .int v10, .long v11, .int v12, .int v13, .int v14, .int v15, .ref m16, .ref m17, .ref m18, .ref m19, .ref m20, .ref m21, .ref m22, .ref m23, .int v24, .ref m25, .ref m26, .ref m27, .ref m28, .ref m29, .int v30, .ref m31, .ref m32, .ref m33, .int v34, .int v35, .int v36, .ref m37, .ref m38, .ref m39, .ref m40, .long v41])), (m17, .inl (k 0, 30, .inl f17)), (m20, .inl (k 0, 120, .inl f20))] sz) := by
  refine Met.ofW (cc := cX12_house) (maxL := 3) (ret := (some .int)) (by decide +kernel) rfl ?_
  intro p e s m args below meth c s₁ B hml hv
  obtain ⟨rfl, hsz, hP, hK, hD0, hN⟩ := hv
  have hx := B.exec
  have hb := B.bytes
  have hr := B.returns
  have hts : ∀ w ∈ TT, w.before _ s = true := fun w h => atoms_spec (ws := ww yX12_house cX12_house 3 (some .int)) B.pre w (List.mem_cons_of_mem _ h)
  have hown : s.vm.findClass RX12 = some m.cls := findClass_of_methodNamed B.named
  have hlocks := B.notSynchronized
  subst hsz
  have hD := hD0.self (sz := s.heap.size)
  generalize hAe : va_A [(mo, .inr (12, [.int v0, .ref m1, .ref m2, .ref m3, .ref m4, .ref m5, .int v6, .int v7, .int v8, .int v9, .int v10, .long v11, .int v12, .int v13, .int v14, .int v15, .ref m16, .ref m17, .ref m18, .ref m19, .ref m20, .ref m21, .ref m22, .ref m23, .int v24, .ref m25, .ref m26, .ref m27, .ref m28, .ref m29, .int v30, .ref m31, .ref m32, .ref m33, .int v34, .int v35, .int v36, .ref m37, .ref m38, .ref m39, .ref m40, .long v41])), (m17, .inl (k 0, 30, .inl f17)), (m20, .inl (k 0, 120, .inl f20))] s.heap.size = A at hD ⊢
  have hA : ∀ q : Nat, s.heap.size ≤ q → A q := fun q h => by rw [← hAe]; exact Or.inr h
  have hS : va_S A s.heap s.heap [] := va_S.rf
  have hl := lv_entry ([.ref mo, .int p0, .int p1]) (n := 3) (Nat.le_of_ble_eq_true rfl)
  rw [lg_entry_eq]
  generalize (lg_sl ([.ref mo, .int p0, .int p1]) ++ List.replicate (3 - (lg_sl ([.ref mo, .int p0, .int p1])).length) Slot.unset).toArray = ls at hl ⊢
  have hl : lv_has ls 3 [(0, .ref mo), (1, .int p0), (2, .int p1)] := hl
  refine lv_aload_n hx hb dX12_house_0 rfl (lv_at hl 0 rfl) ?_
  refine lv_iconst (v := 0) hx hb dX12_house_1 (by decide) ?_
  refine va_put (D := D) (ci := 12) (v := .int 0) (ty := tyX12 0) (C := RX12) (T := TX12) (N := 42) hx hb hts iT_X12 tyX12 tyX12_ok nmX12 hown hK hP hD hS 0 rfl rfl 0 (by decide) (hts _ tw_6_53) (fun _ h9 => h9) rfl (tyX12_ok 0 (by decide)) rfl rfl (Nat.le_of_ble_eq_true rfl) dX12_house_2 (fun H locs hP hD hS => ?_)
  have hP : va_P D vwCl [(mo, .inr (12, [.int 0, .ref m1, .ref m2, .ref m3, .ref m4, .ref m5, .int v6, .int v7, .int v8, .int v9, .int v10, .long v11, .int v12, .int v13, .int v14, .int v15, .ref m16, .ref m17, .ref m18, .ref m19, .ref m20, .ref m21, .ref m22, .ref m23, .int v24, .ref m25, .ref m26, .ref m27, .ref m28, .ref m29, .int v30, .ref m31, .ref m32, .ref m33, .int v34, .int v35, .int v36, .ref m37, .ref m38, .ref m39, .ref m40, .long v41])), (m17, .inl (k 0, 30, .inl f17)), (m20, .inl (k 0, 120, .inl f20))] H := hP
  have hD : va_D A [(mo, .inr (12, [.int 0, .ref m1, .ref m2, .ref m3, .ref m4, .ref m5, .int v6, .int v7, .int v8, .int v9, .int v10, .long v11, .int v12, .int v13, .int v14, .int v15, .ref m16, .ref m17, .ref m18, .ref m19, .ref m20, .ref m21, .ref m22, .ref m23, .int v24, .ref m25, .ref m26, .ref m27, .ref m28, .ref m29, .int v30, .ref m31, .ref m32, .ref m33, .int v34, .int v35, .int v36, .ref m37, .ref m38, .ref m39, .ref m40, .long v41])), (m17, .inl (k 0, 30, .inl f17)), (m20, .inl (k 0, 120, .inl f20))] := hD
  refine lv_aload_n hx hb dX12_house_5 rfl (lv_at hl 0 rfl) ?_
  refine lv_iload_n hx hb dX12_house_6 rfl (lv_at hl 1 rfl) ?_
  have hPc := hP.sub (ws' := [(mo, .inr (12, [.int 0, .ref m1, .ref m2, .ref m3, .ref m4, .ref m5, .int v6, .int v7, .int v8, .int v9, .int v10, .long v11, .int v12, .int v13, .int v14, .int v15, .ref m16, .ref m17, .ref m18, .ref m19, .ref m20, .ref m21, .ref m22, .ref m23, .int v24, .ref m25, .ref m26, .ref m27, .ref m28, .ref m29, .int v30, .ref m31, .ref m32, .ref m33, .int v34, .int v35, .int v36, .ref m37, .ref m38, .ref m39, .ref m40, .long v41])), (m17, .inl (k 0, 30, .inl f17))]) [0, 1] rfl
  have hDc := hD.sub (ws' := [(mo, .inr (12, [.int 0, .ref m1, .ref m2, .ref m3, .ref m4, .ref m5, .int v6, .int v7, .int v8, .int v9, .int v10, .long v11, .int v12, .int v13, .int v14, .int v15, .ref m16, .ref m17, .ref m18, .ref m19, .ref m20, .ref m21, .ref m22, .ref m23, .int v24, .ref m25, .ref m26, .ref m27, .ref m28, .ref m29, .int v30, .ref m31, .ref m32, .ref m33, .int v34, .int v35, .int v36, .ref m37, .ref m38, .ref m39, .ref m40, .long v41])), (m17, .inl (k 0, 30, .inl f17))]) [0, 1] (by decide) rfl
  have hFc := va_free (wc := [(mo, .inr (12, [.int 0, .ref m1, .ref m2, .ref m3, .ref m4, .ref m5, .int v6, .int v7, .int v8, .int v9, .int v10, .long v11, .int v12, .int v13, .int v14, .int v15, .ref m16, .ref m17, .ref m18, .ref m19, .ref m20, .ref m21, .ref m22, .ref m23, .int v24, .ref m25, .ref m26, .ref m27, .ref m28, .ref m29, .int v30, .ref m31, .ref m32, .ref m33, .int v34, .int v35, .int v36, .ref m37, .ref m38, .ref m39, .ref m40, .long v41])), (m17, .inl (k 0, 30, .inl f17))]) hD hS hA [0, 1] rfl
  refine va_calli (va_runV (C := RX12) (As := [.int p0]) (rest := []) ⟨hx, hb, hml, hown, hts⟩ (c_X12_isHouse l D k mo p0 0 m1 m2 m3 m4 m5 v6 v7 v8 v9 v10 v11 v12 v13 v14 v15 m16 m17 m18 m19 m20 m21 m22 m23 v24 m25 m26 m27 m28 m29 v30 m31 m32 m33 v34 v35 v36 m37 m38 m39 m40 v41 f17 H.size (show 0 ≤ v6.toInt ∧ v6.toInt ≤ 1000 from by omega) (show 0 ≤ v24.toInt ∧ v24.toInt ≤ 1023 from by omega) hp_f17_0 hp_f17_1 hp_f17_2 hp_f17_3 hp_f17_4 hp_f17_5) (cwV 1 hts (gV tw_7_125 tw_7_127 tw_p_61 tw_1_13 tw_7_128) rfl rfl rfl hdV_X12_isHouse ⟨Nat.le_of_ble_eq_true rfl, Nat.le_of_ble_eq_true rfl⟩) (cz_V hK hPc hDc hN (ci := 12) (q0 := 0) rfl rfl [.int p0]) rfl rfl hl.1 rfl (lv_room (Nat.le_of_ble_eq_true rfl)) dX12_house_7 ⟨Nat.le_of_ble_eq_true rfl, Nat.le_of_ble_eq_true rfl⟩) hS (fun q _ h => hFc q h) hFc (fun r_1 uZ tZ H1 locs ht hvm hw hB hz1 hk1 hS => ?_)
  obtain ⟨hP1, hK1, hD1⟩ := hB
  rw [ht] at hP1
  obtain ⟨hP, hD⟩ := va_join (wr := [(m20, .inl (k 0, 120, .inl f20))]) (w1 := [(mo, .inr (12, [.int 0, .ref m1, .ref m2, .ref m3, .ref m4, .ref m5, .int v6, .int v7, .int v8, .int v9, .int v10, .long v11, .int v12, .int v13, .int v14, .int v15, .ref m16, .ref m17, .ref m18, .ref m19, .ref m20, .ref m21, .ref m22, .ref m23, .int v24, .ref m25, .ref m26, .ref m27, .ref m28, .ref m29, .int v30, .ref m31, .ref m32, .ref m33, .int v34, .int v35, .int v36, .ref m37, .ref m38, .ref m39, .ref m40, .long v41])), (m17, .inl (k 0, 30, .inl f17))]) hP hD [0, 1] [2] rfl rfl (by decide) (by decide) hk1 hFc hP1 hD1
  clear hK1 hP1 hD1 hPc hDc hFc
  clear hk1 hz1 ht hvm
  have hP : va_P D vwCl [(m20, .inl (k 0, 120, .inl f20)), (mo, .inr (12, [.int 0, .ref m1, .ref m2, .ref m3, .ref m4, .ref m5, .int v6, .int v7, .int v8, .int v9, .int v10, .long v11, .int v12, .int v13, .int v14, .int v15, .ref m16, .ref m17, .ref m18, .ref m19, .ref m20, .ref m21, .ref m22, .ref m23, .int v24, .ref m25, .ref m26, .ref m27, .ref m28, .ref m29, .int v30, .ref m31, .ref m32, .ref m33, .int v34, .int v35, .int v36, .ref m37, .ref m38, .ref m39, .ref m40, .long v41])), (m17, .inl (k 0, 30, .inl f17))] H1 := hP
  have hD : va_D A [(m20, .inl (k 0, 120, .inl f20)), (mo, .inr (12, [.int 0, .ref m1, .ref m2, .ref m3, .ref m4, .ref m5, .int v6, .int v7, .int v8, .int v9, .int v10, .long v11, .int v12, .int v13, .int v14, .int v15, .ref m16, .ref m17, .ref m18, .ref m19, .ref m20, .ref m21, .ref m22, .ref m23, .int v24, .ref m25, .ref m26, .ref m27, .ref m28, .ref m29, .int v30, .ref m31, .ref m32, .ref m33, .int v34, .int v35, .int v36, .ref m37, .ref m38, .ref m39, .ref m40, .long v41])), (m17, .inl (k 0, 30, .inl f17))] := hD
  generalize H1 = H at hP hS ⊢
  have hw_2 : (0 ≤ r_1.toInt ∧ r_1.toInt ≤ 1) ∧ ((r_1.toInt = 1 ∧ 0 ≤ p0.toInt ∧ p0.toInt ≤ 5) ∨ r_1.toInt = 0) := hw
  obtain ⟨hw_3, hw_4⟩ := hw_2
  clear hw
  refine lv_if_eq (tgt := 38) hx hb dX12_house_10 (by decide) (fun h_5 => ?_) (fun h_5 => ?_)
  · skip
    have zh_5 : r_1.toInt = 0 := z_eq h_5
    refine lv_bipush (v := (-2)) hx hb dX12_house_38 (by decide) ?_
    have hP9 := hP.sub (ws' := [(mo, .inr (12, [.int 0, .ref m1, .ref m2, .ref m3, .ref m4, .ref m5, .int v6, .int v7, .int v8, .int v9, .int v10, .long v11, .int v12, .int v13, .int v14, .int v15, .ref m16, .ref m17, .ref m18, .ref m19, .ref m20, .ref m21, .ref m22, .ref m23, .int v24, .ref m25, .ref m26, .ref m27, .ref m28, .ref m29, .int v30, .ref m31, .ref m32, .ref m33, .int v34, .int v35, .int v36, .ref m37, .ref m38, .ref m39, .ref m40, .long v41])), (m17, .inl (k 0, 30, .inl f17)), (m20, .inl (k 0, 120, .inl f20))]) [1, 2, 0] rfl
    have hD9 := hD.sub (ws' := [(mo, .inr (12, [.int 0, .ref m1, .ref m2, .ref m3, .ref m4, .ref m5, .int v6, .int v7, .int v8, .int v9, .int v10, .long v11, .int v12, .int v13, .int v14, .int v15, .ref m16, .ref m17, .ref m18, .ref m19, .ref m20, .ref m21, .ref m22, .ref m23, .int v24, .ref m25, .ref m26, .ref m27, .ref m28, .ref m29, .int v30, .ref m31, .ref m32, .ref m33, .int v34, .int v35, .int v36, .ref m37, .ref m38, .ref m39, .ref m40, .long v41])), (m17, .inl (k 0, 30, .inl f17)), (m20, .inl (k 0, 120, .inl f20))]) [1, 2, 0] (by decide) rfl
    exact W.iret (v := (-2)) hx hb hr (fun tZ ht hW => ⟨⟨(-2), 0, rfl, (show 0 ≤ 0 ∧ 0 ≤ 0 from by omega), by rw [ht]; exact hP9, va_K.moved hW.alike hK, hD9⟩, hS.F ht⟩) hS.2.2 dX12_house_40
  · skip
    have zh_5 : ¬ r_1.toInt = 0 := z_ne h_5
    refine lv_iload_n hx hb dX12_house_13 rfl (lv_at hl 2 rfl) ?_
    refine lv_i2l (v := p1.toInt64) hx hb dX12_house_14 rfl ?_
    refine lv_lconst (v := 0) hx hb dX12_house_15 (by decide) ?_
    refine lv_ldc2 (v := 3) hx hb hown (hts _ tw_6_187) dX12_house_16 ?_
    have hPc := hP.sub (ws' := []) [] rfl
    have hDc := hD.sub (ws' := []) [] (by decide) rfl
    have hFc := va_free (wc := []) hD hS hA [] rfl
    refine va_calli (va_runS (As := [.long p1.toInt64, .long 0, .long 3]) (rest := []) ⟨hx, hb, hml, hown, hts⟩ (c_X12_in l D k p1.toInt64 0 3 H.size) (va_cwS 3 hts (gS tw_6_188 tw_6_189 tw_1_13 tw_6_190) rfl rfl rfl hdS_X12_in ⟨Nat.le_of_ble_eq_true rfl, Nat.le_of_ble_eq_true rfl⟩) (cz_S hK hPc hDc hN [.long p1.toInt64, .long 0, .long 3]) rfl rfl hl.1 rfl (lv_room (Nat.le_of_ble_eq_true rfl)) dX12_house_19 ⟨Nat.le_of_ble_eq_true rfl, Nat.le_of_ble_eq_true rfl⟩) hS (fun q _ h => hFc q h) hFc (fun r_6 uZ tZ H1 locs ht hvm hw hB hz1 hk1 hS => ?_)
    obtain ⟨hP1, hK1, hD1⟩ := hB
    rw [ht] at hP1
    obtain ⟨hP, hD⟩ := va_join (wr := [(m20, .inl (k 0, 120, .inl f20)), (mo, .inr (12, [.int 0, .ref m1, .ref m2, .ref m3, .ref m4, .ref m5, .int v6, .int v7, .int v8, .int v9, .int v10, .long v11, .int v12, .int v13, .int v14, .int v15, .ref m16, .ref m17, .ref m18, .ref m19, .ref m20, .ref m21, .ref m22, .ref m23, .int v24, .ref m25, .ref m26, .ref m27, .ref m28, .ref m29, .int v30, .ref m31, .ref m32, .ref m33, .int v34, .int v35, .int v36, .ref m37, .ref m38, .ref m39, .ref m40, .long v41])), (m17, .inl (k 0, 30, .inl f17))]) (w1 := []) hP hD [] [0, 1, 2] rfl rfl (by decide) (by decide) hk1 hFc hP1 hD1
    clear hK1 hP1 hD1 hPc hDc hFc
    clear hk1 hz1 ht hvm
    have hP : va_P D vwCl [(m20, .inl (k 0, 120, .inl f20)), (mo, .inr (12, [.int 0, .ref m1, .ref m2, .ref m3, .ref m4, .ref m5, .int v6, .int v7, .int v8, .int v9, .int v10, .long v11, .int v12, .int v13, .int v14, .int v15, .ref m16, .ref m17, .ref m18, .ref m19, .ref m20, .ref m21, .ref m22, .ref m23, .int v24, .ref m25, .ref m26, .ref m27, .ref m28, .ref m29, .int v30, .ref m31, .ref m32, .ref m33, .int v34, .int v35, .int v36, .ref m37, .ref m38, .ref m39, .ref m40, .long v41])), (m17, .inl (k 0, 30, .inl f17))] H1 := hP
    have hD : va_D A [(m20, .inl (k 0, 120, .inl f20)), (mo, .inr (12, [.int 0, .ref m1, .ref m2, .ref m3, .ref m4, .ref m5, .int v6, .int v7, .int v8, .int v9, .int v10, .long v11, .int v12, .int v13, .int v14, .int v15, .ref m16, .ref m17, .ref m18, .ref m19, .ref m20, .ref m21, .ref m22, .ref m23, .int v24, .ref m25, .ref m26, .ref m27, .ref m28, .ref m29, .int v30, .ref m31, .ref m32, .ref m33, .int v34, .int v35, .int v36, .ref m37, .ref m38, .ref m39, .ref m40, .long v41])), (m17, .inl (k 0, 30, .inl f17))] := hD
    generalize H1 = H at hP hS ⊢
    have hw_7 : (0 ≤ r_6.toInt ∧ r_6.toInt ≤ 1) ∧ ((r_6.toInt = 1 ∧ 0 ≤ p1.toInt64.toInt ∧ p1.toInt64.toInt ≤ 3) ∨ (r_6.toInt = 0 ∧ (p1.toInt64.toInt < 0 ∨ 3 < p1.toInt64.toInt))) := hw
    obtain ⟨hw_8, hw_9⟩ := hw_7
    clear hw
    simp only [Int32.toInt_toInt64] at hw_8 hw_9
    refine lv_if_eq (tgt := 38) hx hb dX12_house_22 (by decide) (fun h_10 => ?_) (fun h_10 => ?_)
    · skip
      have zh_10 : r_6.toInt = 0 := z_eq h_10
      refine lv_bipush (v := (-2)) hx hb dX12_house_38 (by decide) ?_
      have hP9 := hP.sub (ws' := [(mo, .inr (12, [.int 0, .ref m1, .ref m2, .ref m3, .ref m4, .ref m5, .int v6, .int v7, .int v8, .int v9, .int v10, .long v11, .int v12, .int v13, .int v14, .int v15, .ref m16, .ref m17, .ref m18, .ref m19, .ref m20, .ref m21, .ref m22, .ref m23, .int v24, .ref m25, .ref m26, .ref m27, .ref m28, .ref m29, .int v30, .ref m31, .ref m32, .ref m33, .int v34, .int v35, .int v36, .ref m37, .ref m38, .ref m39, .ref m40, .long v41])), (m17, .inl (k 0, 30, .inl f17)), (m20, .inl (k 0, 120, .inl f20))]) [1, 2, 0] rfl
      have hD9 := hD.sub (ws' := [(mo, .inr (12, [.int 0, .ref m1, .ref m2, .ref m3, .ref m4, .ref m5, .int v6, .int v7, .int v8, .int v9, .int v10, .long v11, .int v12, .int v13, .int v14, .int v15, .ref m16, .ref m17, .ref m18, .ref m19, .ref m20, .ref m21, .ref m22, .ref m23, .int v24, .ref m25, .ref m26, .ref m27, .ref m28, .ref m29, .int v30, .ref m31, .ref m32, .ref m33, .int v34, .int v35, .int v36, .ref m37, .ref m38, .ref m39, .ref m40, .long v41])), (m17, .inl (k 0, 30, .inl f17)), (m20, .inl (k 0, 120, .inl f20))]) [1, 2, 0] (by decide) rfl
      exact W.iret (v := (-2)) hx hb hr (fun tZ ht hW => ⟨⟨(-2), 0, rfl, (show 0 ≤ 0 ∧ 0 ≤ 0 from by omega), by rw [ht]; exact hP9, va_K.moved hW.alike hK, hD9⟩, hS.F ht⟩) hS.2.2 dX12_house_40
    · skip
      have zh_10 : ¬ r_6.toInt = 0 := z_ne h_10
      refine lv_aload_n hx hb dX12_house_25 rfl (lv_at hl 0 rfl) ?_
      refine va_get (D := D) (ci := 12) (v := .ref m20) (C := RX12) (T := TX12) (N := 42) hx hb hts iT_X12 hown hK hP 1 rfl rfl 20 (by decide) (hts _ tw_6_73) (fun _ h9 => h9) rfl dX12_house_26 ?_
      refine lv_iconst (v := 4) hx hb dX12_house_29 (by decide) ?_
      refine lv_iload_n hx hb dX12_house_30 rfl (lv_at hl 1 rfl) ?_
      refine lv_imul hx hb dX12_house_31 ?_
      refine lv_topi (fun x_11 ex_11 => ?_)
      have zx_11 : x_11.toInt = 4 * p0.toInt := by rw [ex_11]; exact z_mul rfl rfl (by omega) (by omega)
      refine lv_iload_n hx hb dX12_house_32 rfl (lv_at hl 2 rfl) ?_
      refine lv_iadd hx hb dX12_house_33 ?_
      refine lv_topi (fun x_12 ex_12 => ?_)
      have zx_12 : x_12.toInt = x_11.toInt + p1.toInt := by rw [ex_12]; exact z_add rfl rfl (by omega) (by omega)
      refine va_iald hx hb hK hP 0 0 rfl rfl (z_in (by omega) (by omega)) dX12_house_34 ?_
      refine lv_topi (fun x_13 ex_13 => ?_)
      refine lv_goto (tgt := 40) hx hb dX12_house_35 (by decide) ?_
      have hP9 := hP.sub (ws' := [(mo, .inr (12, [.int 0, .ref m1, .ref m2, .ref m3, .ref m4, .ref m5, .int v6, .int v7, .int v8, .int v9, .int v10, .long v11, .int v12, .int v13, .int v14, .int v15, .ref m16, .ref m17, .ref m18, .ref m19, .ref m20, .ref m21, .ref m22, .ref m23, .int v24, .ref m25, .ref m26, .ref m27, .ref m28, .ref m29, .int v30, .ref m31, .ref m32, .ref m33, .int v34, .int v35, .int v36, .ref m37, .ref m38, .ref m39, .ref m40, .long v41])), (m17, .inl (k 0, 30, .inl f17)), (m20, .inl (k 0, 120, .inl f20))]) [1, 2, 0] rfl
      have hD9 := hD.sub (ws' := [(mo, .inr (12, [.int 0, .ref m1, .ref m2, .ref m3, .ref m4, .ref m5, .int v6, .int v7, .int v8, .int v9, .int v10, .long v11, .int v12, .int v13, .int v14, .int v15, .ref m16, .ref m17, .ref m18, .ref m19, .ref m20, .ref m21, .ref m22, .ref m23, .int v24, .ref m25, .ref m26, .ref m27, .ref m28, .ref m29, .int v30, .ref m31, .ref m32, .ref m33, .int v34, .int v35, .int v36, .ref m37, .ref m38, .ref m39, .ref m40, .long v41])), (m17, .inl (k 0, 30, .inl f17)), (m20, .inl (k 0, 120, .inl f20))]) [1, 2, 0] (by decide) rfl
      exact W.iret (v := x_13) hx hb hr (fun tZ ht hW => ⟨⟨x_13, 0, rfl, (show 0 ≤ 0 ∧ 0 ≤ 0 from by omega), by rw [ht]; exact hP9, va_K.moved hW.alike hK, hD9⟩, hS.F ht⟩) hS.2.2 dX12_house_40
set_option maxHeartbeats 4000000 in
set_option maxRecDepth 100000 in
theorem c_X12_laneOf (l : Launch) (D : va_G) (k : Nat → ClassId) (mo : Nat) (p0 : Int32) (v0 : Int32) (m1 : Nat) (m2 : Nat) (m3 : Nat) (m4 : Nat) (m5 : Nat) (v6 : Int32) (v7 : Int32) (v8 : Int32) (v9 : Int32) (v10 : Int32) (v11 : Int64) (v12 : Int32) (v13 : Int32) (v14 : Int32) (v15 : Int32) (m16 : Nat) (m17 : Nat) (m18 : Nat) (m19 : Nat) (m20 : Nat) (m21 : Nat) (m22 : Nat) (m23 : Nat) (v24 : Int32) (m25 : Nat) (m26 : Nat) (m27 : Nat) (m28 : Nat) (m29 : Nat) (v30 : Int32) (m31 : Nat) (m32 : Nat) (m33 : Nat) (v34 : Int32) (v35 : Int32) (v36 : Int32) (m37 : Nat) (m38 : Nat) (m39 : Nat) (m40 : Nat) (v41 : Int64) (f17 : Nat → Int32) (f18 : Nat → Int32) (f19 : Nat → Int32) (f25 : Nat → Int32) (f26 : Nat → Int32) (sz : Nat) (h_p0 : 0 ≤ p0.toInt ∧ p0.toInt ≤ 7) (h_v6 : 0 ≤ v6.toInt ∧ v6.toInt ≤ 1000) (h_v24 : 0 ≤ v24.toInt ∧ v24.toInt ≤ 1023) (hp_f17_0 : PR 30 6 0 0 8 f17) (hp_f17_1 : PR 30 6 1 0 10 f17) (hp_f17_2 : PR 30 6 2 0 4 f17) (hp_f17_3 : PR 30 6 3 0 6 f17) (hp_f17_4 : PR 30 6 4 0 2 f17) (hp_f17_5 : PR 30 6 5 0 40 f17) (hp_f18_0 : PR 250 5 0 0 7 f18) (hp_f18_1 : PR 250 5 1 0 7 f18) (hp_f18_2 : PR 250 5 2 1 60 f18) (hp_f18_3 : PR 250 5 3 0 10 f18) (hp_f19_0 : PR 40 2 0 0 7 f19) (hp_f19_1 : PR 40 2 1 0 99 f19) (hp_f25_0 : PR 4 1 0 0 129 f25) (hp_f26_0 : PR 8 1 0 0 100000 f26) : Met l yX12_laneOf (ww yX12_laneOf cX12_laneOf 4 (some .int)) ({ frames := 2, cells := 0, slots := 0, locals := 43 }) (Pre0 D k [(mo, .inr (12, [.int v0, .ref m1, .ref m2, .ref m3, .ref m4, .ref m5, .int v6, .int v7, .int v8, .int v9, .int v10, .long v11, .int v12, .int v13, .int v14, .int v15, .ref m16, .ref m17, .ref m18, .ref m19, .ref m20, .ref m21, .ref m22, .ref m23, .int v24, .ref m25, .ref m26, .ref m27, .ref m28, .ref m29, .int v30, .ref m31, .ref m32, .ref m33, .int v34, .int v35, .int v36, .ref m37, .ref m38, .ref m39, .ref m40, .long v41])), (m17, .inl (k 0, 30, .inl f17)), (m18, .inl (k 0, 250, .inl f18)), (m19, .inl (k 0, 40, .inl f19)), (m25, .inl (k 0, 4, .inl f25)), (m26, .inl (k 0, 8, .inl f26))] sz [.ref mo, .int p0]) (va_Qi (fun (r : Int32) (_ : Unit) => ((-1) ≤ r.toInt ∧ r.toInt ≤ 9)) (fun (_ : Unit) tZ => Bw D k (va_A [(mo, .inr (12, [.int v0, .ref m1, .ref m2, .ref m3, .ref m4, .ref m5, .int v6, .int v7, .int v8, .int v9, .int v10, .long v11, .int v12, .int v13, .int v14, .int v15, .ref m16, .ref m17, .ref m18, .ref m19, .ref m20, .ref m21, .ref m22, .ref m23, .int v24, .ref m25, .ref m26, .ref m27, .ref m28, .ref m29, .int v30, .ref m31, .ref m32, .ref m33, .int v34, .int v35, .int v36, .ref m37, .ref m38, .ref m39, .ref m40, .long v41])), (m17, .inl (k 0, 30, .inl f17)), (m18, .inl (k 0, 250, .inl f18)), (m19, .inl (k 0, 40, .inl f19)), (m25, .inl (k 0, 4, .inl f25)), (m26, .inl (k 0, 8, .inl f26))] sz) [(mo, .inr (12, [.int v0, .ref m1, .ref m2, .ref m3, .ref m4, .ref m5, .int v6, .int v7, .int v8, .int v9, .int v10, .long v11, .int v12, .int v13, .int v14, .int v15, .ref m16, .ref m17, .ref m18, .ref m19, .ref m20, .ref m21, .ref m22, .ref m23, .int v24, .ref m25, .ref m26, .ref m27, .ref m28, .ref m29, .int v30, .ref m31, .ref m32, .ref m33, .int v34, .int v35, .int v36, .ref m37, .ref m38, .ref m39, .ref m40, .long v41])), (m17, .inl (k 0, 30, .inl f17)), (m18, .inl (k 0, 250, .inl f18)), (m19, .inl (k 0, 40, .inl f19)), (m25, .inl (k 0, 4, .inl f25)), (m26, .inl (k 0, 8, .inl f26))] tZ) (va_A [(mo, .inr (12, [.int v0, .ref m1, .ref m2, .ref m3, .ref m4, .ref m5, .int v6, .int v7, .int v8, .int v9, .int v10, .long v11, .int v12, .int v13, .int v14, .int v15, .ref m16, .ref m17, .ref m18, .ref m19, .ref m20, .ref m21, .ref m22, .ref m23, .int v24, .ref m25, .ref m26, .ref m27, .ref m28, .ref m29, .int v30, .ref m31, .ref m32, .ref m33, .int v34, .int v35, .int v36, .ref m37, .ref m38, .ref m39, .ref m40, .long v41])), (m17, .inl (k 0, 30, .inl f17)), (m18, .inl (k 0, 250, .inl f18)), (m19, .inl (k 0, 40, .inl f19)), (m25, .inl (k 0, 4, .inl f25)), (m26, .inl (k 0, 8, .inl f26))] sz)) 0 0 (va_A [(mo, .inr (12, [.int v0, .ref m1, .ref m2, .ref m3, .ref m4, .ref m5, .int v6, .int v7, .int v8, .int v9, .int v10, .long v11, .int v12, .int v13, .int v14, .int v15, .ref m16, .ref m17, .ref m18, .ref m19, .ref m20, .ref m21, .ref m22, .ref m23, .int v24, .ref m25, .ref m26, .ref m27, .ref m28, .ref m29, .int v30, .ref m31, .ref m32, .ref m33, .int v34, .int v35, .int v36, .ref m37, .ref m38, .ref m39, .ref m40, .long v41])), (m17, .inl (k 0, 30, .inl f17)), (m18, .inl (k 0, 250, .inl f18)), (m19, .inl (k 0, 40, .inl f19)), (m25, .inl (k 0, 4, .inl f25)), (m26, .inl (k 0, 8, .inl f26))] sz) := by
  refine Met.ofW (cc := cX12_laneOf) (maxL := 4) (ret := (some .int)) (by decide +kernel) rfl ?_
  intro p e s m args below meth c s₁ B hml hv
  obtain ⟨rfl, hsz, hP, hK, hD0, hN⟩ := hv
  have hx := B.exec
  have hb := B.bytes
  have hr := B.returns
  have hts : ∀ w ∈ TT, w.before _ s = true := fun w h => atoms_spec (ws := ww yX12_laneOf cX12_laneOf 4 (some .int)) B.pre w (List.mem_cons_of_mem _ h)
  have hown : s.vm.findClass RX12 = some m.cls := findClass_of_methodNamed B.named
  have hlocks := B.notSynchronized
  subst hsz
  have hD := hD0.self (sz := s.heap.size)
  generalize hAe : va_A [(mo, .inr (12, [.int v0, .ref m1, .ref m2, .ref m3, .ref m4, .ref m5, .int v6, .int v7, .int v8, .int v9, .int v10, .long v11, .int v12, .int v13, .int v14, .int v15, .ref m16, .ref m17, .ref m18, .ref m19, .ref m20, .ref m21, .ref m22, .ref m23, .int v24, .ref m25, .ref m26, .ref m27, .ref m28, .ref m29, .int v30, .ref m31, .ref m32, .ref m33, .int v34, .int v35, .int v36, .ref m37, .ref m38, .ref m39, .ref m40, .long v41])), (m17, .inl (k 0, 30, .inl f17)), (m18, .inl (k 0, 250, .inl f18)), (m19, .inl (k 0, 40, .inl f19)), (m25, .inl (k 0, 4, .inl f25)), (m26, .inl (k 0, 8, .inl f26))] s.heap.size = A at hD ⊢
  have hA : ∀ q : Nat, s.heap.size ≤ q → A q := fun q h => by rw [← hAe]; exact Or.inr h
  have hS : va_S A s.heap s.heap [] := va_S.rf
  have hl := lv_entry ([.ref mo, .int p0]) (n := 4) (Nat.le_of_ble_eq_true rfl)
  rw [lg_entry_eq]
  generalize (lg_sl ([.ref mo, .int p0]) ++ List.replicate (4 - (lg_sl ([.ref mo, .int p0])).length) Slot.unset).toArray = ls at hl ⊢
  have hl : lv_has ls 4 [(0, .ref mo), (1, .int p0)] := hl
  refine lv_aload_n hx hb dX12_laneOf_0 rfl (lv_at hl 0 rfl) ?_
  refine va_get (D := D) (ci := 12) (v := .ref m26) (C := RX12) (T := TX12) (N := 42) hx hb hts iT_X12 hown hK hP 0 rfl rfl 26 (by decide) (hts _ tw_6_79) (fun _ h9 => h9) rfl dX12_laneOf_1 ?_
  refine lv_iload_n hx hb dX12_laneOf_4 rfl (lv_at hl 1 rfl) ?_
  refine va_iald hx hb hK hP 5 0 rfl rfl (z_in (by omega) (by omega)) dX12_laneOf_5 ?_
  refine lv_topi (fun x_1 ex_1 => ?_)
  have zx_1r0 : 0 ≤ x_1.toInt ∧ x_1.toInt ≤ 100000 := by rw [ex_1]; exact PR.ld hp_f26_0 (by omega) (by omega) (by omega)
  refine lv_ldc (v := 100000) hx hb hown (hts _ tw_7_5) dX12_laneOf_6 ?_
  refine lv_icmp_lt (tgt := 13) hx hb dX12_laneOf_8 (by decide) (fun h_2 => ?_) (fun h_2 => ?_)
  · skip
    have zh_2 : x_1.toInt < 100000 := z_lt h_2
    refine lv_iconst (v := 0) hx hb dX12_laneOf_13 (by decide) ?_
    refine lv_istore_n (lv' := [(2, .int 0), (0, .ref mo), (1, .int p0)]) hx hb dX12_laneOf_14 rfl hl (by decide) rfl (fun ls hl => ?_)
    refine loop_r (Wg := fun H locs ls => W p l e _ s m _ below meth c H locs _ _ _ (F0 m 15 ls [])) (fun n9 H locs ls => ∃ (L15l2 : Int32), n9 = (4 - L15l2.toInt).toNat ∧ (0 ≤ L15l2.toInt ∧ L15l2.toInt ≤ 4) ∧ va_P D vwCl [(mo, .inr (12, [.int v0, .ref m1, .ref m2, .ref m3, .ref m4, .ref m5, .int v6, .int v7, .int v8, .int v9, .int v10, .long v11, .int v12, .int v13, .int v14, .int v15, .ref m16, .ref m17, .ref m18, .ref m19, .ref m20, .ref m21, .ref m22, .ref m23, .int v24, .ref m25, .ref m26, .ref m27, .ref m28, .ref m29, .int v30, .ref m31, .ref m32, .ref m33, .int v34, .int v35, .int v36, .ref m37, .ref m38, .ref m39, .ref m40, .long v41])), (m17, .inl (k 0, 30, .inl f17)), (m18, .inl (k 0, 250, .inl f18)), (m19, .inl (k 0, 40, .inl f19)), (m25, .inl (k 0, 4, .inl f25)), (m26, .inl (k 0, 8, .inl f26))] H ∧ va_D A [(mo, .inr (12, [.int v0, .ref m1, .ref m2, .ref m3, .ref m4, .ref m5, .int v6, .int v7, .int v8, .int v9, .int v10, .long v11, .int v12, .int v13, .int v14, .int v15, .ref m16, .ref m17, .ref m18, .ref m19, .ref m20, .ref m21, .ref m22, .ref m23, .int v24, .ref m25, .ref m26, .ref m27, .ref m28, .ref m29, .int v30, .ref m31, .ref m32, .ref m33, .int v34, .int v35, .int v36, .ref m37, .ref m38, .ref m39, .ref m40, .long v41])), (m17, .inl (k 0, 30, .inl f17)), (m18, .inl (k 0, 250, .inl f18)), (m19, .inl (k 0, 40, .inl f19)), (m25, .inl (k 0, 4, .inl f25)), (m26, .inl (k 0, 8, .inl f26))] ∧ va_S A s.heap H locs ∧ lv_has ls 4 [(0, .ref mo), (1, .int p0), (2, .int L15l2)]) (fun n9 H locs ls hI ih_3 => ?_) _ _ _ _ ⟨0, rfl, (show 0 ≤ 0 ∧ 0 ≤ 4 from by omega), hP.sub (ws' := [(mo, .inr (12, [.int v0, .ref m1, .ref m2, .ref m3, .ref m4, .ref m5, .int v6, .int v7, .int v8, .int v9, .int v10, .long v11, .int v12, .int v13, .int v14, .int v15, .ref m16, .ref m17, .ref m18, .ref m19, .ref m20, .ref m21, .ref m22, .ref m23, .int v24, .ref m25, .ref m26, .ref m27, .ref m28, .ref m29, .int v30, .ref m31, .ref m32, .ref m33, .int v34, .int v35, .int v36, .ref m37, .ref m38, .ref m39, .ref m40, .long v41])), (m17, .inl (k 0, 30, .inl f17)), (m18, .inl (k 0, 250, .inl f18)), (m19, .inl (k 0, 40, .inl f19)), (m25, .inl (k 0, 4, .inl f25)), (m26, .inl (k 0, 8, .inl f26))]) [0, 1, 2, 3, 4, 5] rfl, hD.sub (ws' := [(mo, .inr (12, [.int v0, .ref m1, .ref m2, .ref m3, .ref m4, .ref m5, .int v6, .int v7, .int v8, .int v9, .int v10, .long v11, .int v12, .int v13, .int v14, .int v15, .ref m16, .ref m17, .ref m18, .ref m19, .ref m20, .ref m21, .ref m22, .ref m23, .int v24, .ref m25, .ref m26, .ref m27, .ref m28, .ref m29, .int v30, .ref m31, .ref m32, .ref m33, .int v34, .int v35, .int v36, .ref m37, .ref m38, .ref m39, .ref m40, .long v41])), (m17, .inl (k 0, 30, .inl f17)), (m18, .inl (k 0, 250, .inl f18)), (m19, .inl (k 0, 40, .inl f19)), (m25, .inl (k 0, 4, .inl f25)), (m26, .inl (k 0, 8, .inl f26))]) [0, 1, 2, 3, 4, 5] (by decide) rfl, hS, lv_sub hl [1, 2, 0] rfl⟩
    clear hP hD hS hl
    obtain ⟨L15l2, en_4, zL15l2, hP, hD, hS, hl⟩ := hI
    refine lv_iload_n hx hb dX12_laneOf_15 rfl (lv_at hl 2 rfl) ?_
    refine lv_aload_n hx hb dX12_laneOf_16 rfl (lv_at hl 0 rfl) ?_
    refine va_get (D := D) (ci := 12) (v := .ref m17) (C := RX12) (T := TX12) (N := 42) hx hb hts iT_X12 hown hK hP 0 rfl rfl 17 (by decide) (hts _ tw_6_70) (fun _ h9 => h9) rfl dX12_laneOf_17 ?_
    refine lv_iconst (v := 2) hx hb dX12_laneOf_20 (by decide) ?_
    refine va_iald hx hb hK hP 1 0 rfl rfl (z_in (by decide) (by decide)) dX12_laneOf_21 ?_
    refine lv_topi (fun x_5 ex_5 => ?_)
    have zx_5r2 : 0 ≤ x_5.toInt ∧ x_5.toInt ≤ 4 := by rw [ex_5]; exact PR.ld hp_f17_2 (by decide) (by decide) (by decide)
    refine lv_icmp_ge (tgt := 60) hx hb dX12_laneOf_22 (by decide) (fun h_6 => ?_) (fun h_6 => ?_)
    · skip
      have zh_6 : x_5.toInt ≤ L15l2.toInt := z_le h_6
      refine lv_iconst (v := 0) hx hb dX12_laneOf_60 (by decide) ?_
      refine lv_istore_n (lv' := [(2, .int 0), (0, .ref mo), (1, .int p0)]) hx hb dX12_laneOf_61 rfl hl (by decide) rfl (fun ls hl => ?_)
      refine loop_r (Wg := fun H locs ls => W p l e _ s m _ below meth c H locs _ _ _ (F0 m 62 ls [])) (fun n9 H locs ls => ∃ (L62l2 : Int32), n9 = (10 - L62l2.toInt).toNat ∧ (0 ≤ L62l2.toInt ∧ L62l2.toInt ≤ 10) ∧ va_P D vwCl [(mo, .inr (12, [.int v0, .ref m1, .ref m2, .ref m3, .ref m4, .ref m5, .int v6, .int v7, .int v8, .int v9, .int v10, .long v11, .int v12, .int v13, .int v14, .int v15, .ref m16, .ref m17, .ref m18, .ref m19, .ref m20, .ref m21, .ref m22, .ref m23, .int v24, .ref m25, .ref m26, .ref m27, .ref m28, .ref m29, .int v30, .ref m31, .ref m32, .ref m33, .int v34, .int v35, .int v36, .ref m37, .ref m38, .ref m39, .ref m40, .long v41])), (m17, .inl (k 0, 30, .inl f17)), (m18, .inl (k 0, 250, .inl f18)), (m19, .inl (k 0, 40, .inl f19)), (m25, .inl (k 0, 4, .inl f25)), (m26, .inl (k 0, 8, .inl f26))] H ∧ va_D A [(mo, .inr (12, [.int v0, .ref m1, .ref m2, .ref m3, .ref m4, .ref m5, .int v6, .int v7, .int v8, .int v9, .int v10, .long v11, .int v12, .int v13, .int v14, .int v15, .ref m16, .ref m17, .ref m18, .ref m19, .ref m20, .ref m21, .ref m22, .ref m23, .int v24, .ref m25, .ref m26, .ref m27, .ref m28, .ref m29, .int v30, .ref m31, .ref m32, .ref m33, .int v34, .int v35, .int v36, .ref m37, .ref m38, .ref m39, .ref m40, .long v41])), (m17, .inl (k 0, 30, .inl f17)), (m18, .inl (k 0, 250, .inl f18)), (m19, .inl (k 0, 40, .inl f19)), (m25, .inl (k 0, 4, .inl f25)), (m26, .inl (k 0, 8, .inl f26))] ∧ va_S A s.heap H locs ∧ lv_has ls 4 [(0, .ref mo), (1, .int p0), (2, .int L62l2)]) (fun n9 H locs ls hI ih_7 => ?_) _ _ _ _ ⟨0, rfl, (show 0 ≤ 0 ∧ 0 ≤ 10 from by omega), hP.sub (ws' := [(mo, .inr (12, [.int v0, .ref m1, .ref m2, .ref m3, .ref m4, .ref m5, .int v6, .int v7, .int v8, .int v9, .int v10, .long v11, .int v12, .int v13, .int v14, .int v15, .ref m16, .ref m17, .ref m18, .ref m19, .ref m20, .ref m21, .ref m22, .ref m23, .int v24, .ref m25, .ref m26, .ref m27, .ref m28, .ref m29, .int v30, .ref m31, .ref m32, .ref m33, .int v34, .int v35, .int v36, .ref m37, .ref m38, .ref m39, .ref m40, .long v41])), (m17, .inl (k 0, 30, .inl f17)), (m18, .inl (k 0, 250, .inl f18)), (m19, .inl (k 0, 40, .inl f19)), (m25, .inl (k 0, 4, .inl f25)), (m26, .inl (k 0, 8, .inl f26))]) [0, 1, 2, 3, 4, 5] rfl, hD.sub (ws' := [(mo, .inr (12, [.int v0, .ref m1, .ref m2, .ref m3, .ref m4, .ref m5, .int v6, .int v7, .int v8, .int v9, .int v10, .long v11, .int v12, .int v13, .int v14, .int v15, .ref m16, .ref m17, .ref m18, .ref m19, .ref m20, .ref m21, .ref m22, .ref m23, .int v24, .ref m25, .ref m26, .ref m27, .ref m28, .ref m29, .int v30, .ref m31, .ref m32, .ref m33, .int v34, .int v35, .int v36, .ref m37, .ref m38, .ref m39, .ref m40, .long v41])), (m17, .inl (k 0, 30, .inl f17)), (m18, .inl (k 0, 250, .inl f18)), (m19, .inl (k 0, 40, .inl f19)), (m25, .inl (k 0, 4, .inl f25)), (m26, .inl (k 0, 8, .inl f26))]) [0, 1, 2, 3, 4, 5] (by decide) rfl, hS, lv_sub hl [1, 2, 0] rfl⟩
      clear hP hD hS hl
      obtain ⟨L62l2, en_8, zL62l2, hP, hD, hS, hl⟩ := hI
      refine lv_iload_n hx hb dX12_laneOf_62 rfl (lv_at hl 2 rfl) ?_
      refine lv_aload_n hx hb dX12_laneOf_63 rfl (lv_at hl 0 rfl) ?_
      refine va_get (D := D) (ci := 12) (v := .ref m17) (C := RX12) (T := TX12) (N := 42) hx hb hts iT_X12 hown hK hP 0 rfl rfl 17 (by decide) (hts _ tw_6_70) (fun _ h9 => h9) rfl dX12_laneOf_64 ?_
      refine lv_iconst (v := 1) hx hb dX12_laneOf_67 (by decide) ?_
      refine va_iald hx hb hK hP 1 0 rfl rfl (z_in (by decide) (by decide)) dX12_laneOf_68 ?_
      refine lv_topi (fun x_9 ex_9 => ?_)
      have zx_9r1 : 0 ≤ x_9.toInt ∧ x_9.toInt ≤ 10 := by rw [ex_9]; exact PR.ld hp_f17_1 (by decide) (by decide) (by decide)
      refine lv_icmp_ge (tgt := 176) hx hb dX12_laneOf_69 (by decide) (fun h_10 => ?_) (fun h_10 => ?_)
      · skip
        have zh_10 : x_9.toInt ≤ L62l2.toInt := z_le h_10
        refine lv_iconst (v := (-1)) hx hb dX12_laneOf_176 (by decide) ?_
        have hP9 := hP.sub (ws' := [(mo, .inr (12, [.int v0, .ref m1, .ref m2, .ref m3, .ref m4, .ref m5, .int v6, .int v7, .int v8, .int v9, .int v10, .long v11, .int v12, .int v13, .int v14, .int v15, .ref m16, .ref m17, .ref m18, .ref m19, .ref m20, .ref m21, .ref m22, .ref m23, .int v24, .ref m25, .ref m26, .ref m27, .ref m28, .ref m29, .int v30, .ref m31, .ref m32, .ref m33, .int v34, .int v35, .int v36, .ref m37, .ref m38, .ref m39, .ref m40, .long v41])), (m17, .inl (k 0, 30, .inl f17)), (m18, .inl (k 0, 250, .inl f18)), (m19, .inl (k 0, 40, .inl f19)), (m25, .inl (k 0, 4, .inl f25)), (m26, .inl (k 0, 8, .inl f26))]) [0, 1, 2, 3, 4, 5] rfl
        have hD9 := hD.sub (ws' := [(mo, .inr (12, [.int v0, .ref m1, .ref m2, .ref m3, .ref m4, .ref m5, .int v6, .int v7, .int v8, .int v9, .int v10, .long v11, .int v12, .int v13, .int v14, .int v15, .ref m16, .ref m17, .ref m18, .ref m19, .ref m20, .ref m21, .ref m22, .ref m23, .int v24, .ref m25, .ref m26, .ref m27, .ref m28, .ref m29, .int v30, .ref m31, .ref m32, .ref m33, .int v34, .int v35, .int v36, .ref m37, .ref m38, .ref m39, .ref m40, .long v41])), (m17, .inl (k 0, 30, .inl f17)), (m18, .inl (k 0, 250, .inl f18)), (m19, .inl (k 0, 40, .inl f19)), (m25, .inl (k 0, 4, .inl f25)), (m26, .inl (k 0, 8, .inl f26))]) [0, 1, 2, 3, 4, 5] (by decide) rfl
        exact W.iret (v := (-1)) hx hb hr (fun tZ ht hW => ⟨⟨(-1), (), rfl, (show (-1) ≤ (-1) ∧ (-1) ≤ 9 from by omega), by rw [ht]; exact hP9, va_K.moved hW.alike hK, hD9⟩, hS.F ht⟩) hS.2.2 dX12_laneOf_177
      · skip
        have zh_10 : L62l2.toInt < x_9.toInt := z_nle h_10
        refine lv_aload_n hx hb dX12_laneOf_72 rfl (lv_at hl 0 rfl) ?_
        refine va_get (D := D) (ci := 12) (v := .int v24) (C := RX12) (T := TX12) (N := 42) hx hb hts iT_X12 hown hK hP 0 rfl rfl 24 (by decide) (hts _ tw_6_77) (fun _ h9 => h9) rfl dX12_laneOf_73 ?_
        refine lv_iload_n hx hb dX12_laneOf_76 rfl (lv_at hl 2 rfl) ?_
        have hPc := hP.sub (ws' := []) [] rfl
        have hDc := hD.sub (ws' := []) [] (by decide) rfl
        have hFc := va_free (wc := []) hD hS hA [] rfl
        refine va_calli (va_runS (As := [.int v24, .int L62l2]) (rest := []) ⟨hx, hb, hml, hown, hts⟩ (c_X12_isBit l D k v24 L62l2 H.size) (va_cwS 2 hts (gS tw_7_107 tw_7_108 tw_1_13 tw_7_109) rfl rfl rfl hdS_X12_isBit ⟨Nat.le_of_ble_eq_true rfl, Nat.le_of_ble_eq_true rfl⟩) (cz_S hK hPc hDc hN [.int v24, .int L62l2]) rfl rfl hl.1 rfl (lv_room (Nat.le_of_ble_eq_true rfl)) dX12_laneOf_77 ⟨Nat.le_of_ble_eq_true rfl, Nat.le_of_ble_eq_true rfl⟩) hS (fun q _ h => hFc q h) hFc (fun r_11 uZ tZ H1 locs ht hvm hw hB hz1 hk1 hS => ?_)
        obtain ⟨hP1, hK1, hD1⟩ := hB
        rw [ht] at hP1
        obtain ⟨hP, hD⟩ := va_join (wr := [(mo, .inr (12, [.int v0, .ref m1, .ref m2, .ref m3, .ref m4, .ref m5, .int v6, .int v7, .int v8, .int v9, .int v10, .long v11, .int v12, .int v13, .int v14, .int v15, .ref m16, .ref m17, .ref m18, .ref m19, .ref m20, .ref m21, .ref m22, .ref m23, .int v24, .ref m25, .ref m26, .ref m27, .ref m28, .ref m29, .int v30, .ref m31, .ref m32, .ref m33, .int v34, .int v35, .int v36, .ref m37, .ref m38, .ref m39, .ref m40, .long v41])), (m17, .inl (k 0, 30, .inl f17)), (m18, .inl (k 0, 250, .inl f18)), (m19, .inl (k 0, 40, .inl f19)), (m25, .inl (k 0, 4, .inl f25)), (m26, .inl (k 0, 8, .inl f26))]) (w1 := []) hP hD [] [0, 1, 2, 3, 4, 5] rfl rfl (by decide) (by decide) hk1 hFc hP1 hD1
        clear hK1 hP1 hD1 hPc hDc hFc
        clear hk1 hz1 ht hvm
        have hP : va_P D vwCl [(mo, .inr (12, [.int v0, .ref m1, .ref m2, .ref m3, .ref m4, .ref m5, .int v6, .int v7, .int v8, .int v9, .int v10, .long v11, .int v12, .int v13, .int v14, .int v15, .ref m16, .ref m17, .ref m18, .ref m19, .ref m20, .ref m21, .ref m22, .ref m23, .int v24, .ref m25, .ref m26, .ref m27, .ref m28, .ref m29, .int v30, .ref m31, .ref m32, .ref m33, .int v34, .int v35, .int v36, .ref m37, .ref m38, .ref m39, .ref m40, .long v41])), (m17, .inl (k 0, 30, .inl f17)), (m18, .inl (k 0, 250, .inl f18)), (m19, .inl (k 0, 40, .inl f19)), (m25, .inl (k 0, 4, .inl f25)), (m26, .inl (k 0, 8, .inl f26))] H1 := hP
        have hD : va_D A [(mo, .inr (12, [.int v0, .ref m1, .ref m2, .ref m3, .ref m4, .ref m5, .int v6, .int v7, .int v8, .int v9, .int v10, .long v11, .int v12, .int v13, .int v14, .int v15, .ref m16, .ref m17, .ref m18, .ref m19, .ref m20, .ref m21, .ref m22, .ref m23, .int v24, .ref m25, .ref m26, .ref m27, .ref m28, .ref m29, .int v30, .ref m31, .ref m32, .ref m33, .int v34, .int v35, .int v36, .ref m37, .ref m38, .ref m39, .ref m40, .long v41])), (m17, .inl (k 0, 30, .inl f17)), (m18, .inl (k 0, 250, .inl f18)), (m19, .inl (k 0, 40, .inl f19)), (m25, .inl (k 0, 4, .inl f25)), (m26, .inl (k 0, 8, .inl f26))] := hD
        generalize H1 = H at hP hS ⊢
        have hw_12 : (0 ≤ r_11.toInt ∧ r_11.toInt ≤ 1) := hw
        have hw_13 := hw_12
        clear hw
        refine lv_if_eq (tgt := 170) hx hb dX12_laneOf_80 (by decide) (fun h_14 => ?_) (fun h_14 => ?_)
        · skip
          have zh_14 : r_11.toInt = 0 := z_eq h_14
          obtain ⟨x_15, ex_15⟩ : ∃ y : Int32, y = L62l2 + 1 := ⟨_, rfl⟩
          have zx_15 : x_15.toInt = L62l2.toInt + 1 := by rw [ex_15]; exact z_add rfl rfl (by omega) (by omega)
          refine lv_iinc (v := x_15) (lv' := [(2, .int x_15), (0, .ref mo), (1, .int p0)]) hx hb dX12_laneOf_170 hl (k := 2) rfl (by rw [ex_15]; rfl) (by decide) rfl (fun ls hl => ?_)
          refine lv_goto (tgt := 62) hx hb dX12_laneOf_173 (by decide) ?_
          exact ih_7 _ _ _ _ (by omega) ⟨x_15, rfl, (show 0 ≤ x_15.toInt ∧ x_15.toInt ≤ 10 from by omega), hP.sub (ws' := [(mo, .inr (12, [.int v0, .ref m1, .ref m2, .ref m3, .ref m4, .ref m5, .int v6, .int v7, .int v8, .int v9, .int v10, .long v11, .int v12, .int v13, .int v14, .int v15, .ref m16, .ref m17, .ref m18, .ref m19, .ref m20, .ref m21, .ref m22, .ref m23, .int v24, .ref m25, .ref m26, .ref m27, .ref m28, .ref m29, .int v30, .ref m31, .ref m32, .ref m33, .int v34, .int v35, .int v36, .ref m37, .ref m38, .ref m39, .ref m40, .long v41])), (m17, .inl (k 0, 30, .inl f17)), (m18, .inl (k 0, 250, .inl f18)), (m19, .inl (k 0, 40, .inl f19)), (m25, .inl (k 0, 4, .inl f25)), (m26, .inl (k 0, 8, .inl f26))]) [0, 1, 2, 3, 4, 5] rfl, hD.sub (ws' := [(mo, .inr (12, [.int v0, .ref m1, .ref m2, .ref m3, .ref m4, .ref m5, .int v6, .int v7, .int v8, .int v9, .int v10, .long v11, .int v12, .int v13, .int v14, .int v15, .ref m16, .ref m17, .ref m18, .ref m19, .ref m20, .ref m21, .ref m22, .ref m23, .int v24, .ref m25, .ref m26, .ref m27, .ref m28, .ref m29, .int v30, .ref m31, .ref m32, .ref m33, .int v34, .int v35, .int v36, .ref m37, .ref m38, .ref m39, .ref m40, .long v41])), (m17, .inl (k 0, 30, .inl f17)), (m18, .inl (k 0, 250, .inl f18)), (m19, .inl (k 0, 40, .inl f19)), (m25, .inl (k 0, 4, .inl f25)), (m26, .inl (k 0, 8, .inl f26))]) [0, 1, 2, 3, 4, 5] (by decide) rfl, hS, lv_sub hl [1, 2, 0] rfl⟩
        · skip
          have zh_14 : ¬ r_11.toInt = 0 := z_ne h_14
          refine lv_aload_n hx hb dX12_laneOf_83 rfl (lv_at hl 0 rfl) ?_
          refine va_get (D := D) (ci := 12) (v := .ref m18) (C := RX12) (T := TX12) (N := 42) hx hb hts iT_X12 hown hK hP 0 rfl rfl 18 (by decide) (hts _ tw_6_71) (fun _ h9 => h9) rfl dX12_laneOf_84 ?_
          refine lv_iconst (v := 5) hx hb dX12_laneOf_87 (by decide) ?_
          refine lv_iload_n hx hb dX12_laneOf_88 rfl (lv_at hl 2 rfl) ?_
          refine lv_imul hx hb dX12_laneOf_89 ?_
          refine lv_topi (fun x_16 ex_16 => ?_)
          have zx_16 : x_16.toInt = 5 * L62l2.toInt := by rw [ex_16]; exact z_mul rfl rfl (by omega) (by omega)
          refine va_iald hx hb hK hP 2 0 rfl rfl (z_in (by omega) (by omega)) dX12_laneOf_90 ?_
          refine lv_topi (fun x_17 ex_17 => ?_)
          have zx_17r0 : 0 ≤ x_17.toInt ∧ x_17.toInt ≤ 7 := by rw [ex_17]; exact PR.ld hp_f18_0 (by omega) (by omega) (by omega)
          refine lv_iload_n hx hb dX12_laneOf_91 rfl (lv_at hl 1 rfl) ?_
          refine lv_icmp_eq (tgt := 112) hx hb dX12_laneOf_92 (by decide) (fun h_18 => ?_) (fun h_18 => ?_)
          · skip
            have zh_18 : x_17.toInt = p0.toInt := z_eq h_18
            refine lv_aload_n hx hb dX12_laneOf_112 rfl (lv_at hl 0 rfl) ?_
            refine va_get (D := D) (ci := 12) (v := .ref m18) (C := RX12) (T := TX12) (N := 42) hx hb hts iT_X12 hown hK hP 0 rfl rfl 18 (by decide) (hts _ tw_6_71) (fun _ h9 => h9) rfl dX12_laneOf_113 ?_
            refine lv_iconst (v := 5) hx hb dX12_laneOf_116 (by decide) ?_
            refine lv_iload_n hx hb dX12_laneOf_117 rfl (lv_at hl 2 rfl) ?_
            refine lv_imul hx hb dX12_laneOf_118 ?_
            refine lv_topi (fun x_19 ex_19 => ?_)
            obtain rfl : x_16 = x_19 := ex_16.trans ex_19.symm
            refine va_iald hx hb hK hP 2 0 rfl rfl (z_in (by omega) (by omega)) dX12_laneOf_119 ?_
            refine lv_topi (fun x_20 ex_20 => ?_)
            obtain rfl : x_17 = x_20 := ex_17.trans ex_20.symm
            refine lv_iload_n hx hb dX12_laneOf_120 rfl (lv_at hl 1 rfl) ?_
            refine lv_icmp_ne (tgt := 137) hx hb dX12_laneOf_121 (by decide) (fun h_21 => ?_) (fun h_21 => ?_)
            · skip
              have zh_21 : ¬ x_17.toInt = p0.toInt := z_ne h_21
              refine lv_aload_n hx hb dX12_laneOf_137 rfl (lv_at hl 0 rfl) ?_
              refine va_get (D := D) (ci := 12) (v := .ref m18) (C := RX12) (T := TX12) (N := 42) hx hb hts iT_X12 hown hK hP 0 rfl rfl 18 (by decide) (hts _ tw_6_71) (fun _ h9 => h9) rfl dX12_laneOf_138 ?_
              refine lv_iconst (v := 5) hx hb dX12_laneOf_141 (by decide) ?_
              refine lv_iload_n hx hb dX12_laneOf_142 rfl (lv_at hl 2 rfl) ?_
              refine lv_imul hx hb dX12_laneOf_143 ?_
              refine lv_topi (fun x_22 ex_22 => ?_)
              obtain rfl : x_16 = x_22 := ex_16.trans ex_22.symm
              refine va_iald hx hb hK hP 2 0 rfl rfl (z_in (by omega) (by omega)) dX12_laneOf_144 ?_
              refine lv_topi (fun x_23 ex_23 => ?_)
              obtain rfl : x_17 = x_23 := ex_17.trans ex_23.symm
              refine lv_istore_n (lv' := [(3, .int x_17), (0, .ref mo), (1, .int p0), (2, .int L62l2)]) hx hb dX12_laneOf_145 rfl hl (by decide) rfl (fun ls hl => ?_)
              refine lv_aload_n hx hb dX12_laneOf_146 rfl (lv_at hl 1 rfl) ?_
              refine va_get (D := D) (ci := 12) (v := .ref m26) (C := RX12) (T := TX12) (N := 42) hx hb hts iT_X12 hown hK hP 0 rfl rfl 26 (by decide) (hts _ tw_6_79) (fun _ h9 => h9) rfl dX12_laneOf_147 ?_
              refine lv_iload_n hx hb dX12_laneOf_150 rfl (lv_at hl 0 rfl) ?_
              refine va_iald hx hb hK hP 5 0 rfl rfl (z_in (by omega) (by omega)) dX12_laneOf_151 ?_
              refine lv_topi (fun x_24 ex_24 => ?_)
              have zx_24r0 : 0 ≤ x_24.toInt ∧ x_24.toInt ≤ 100000 := by rw [ex_24]; exact PR.ld hp_f26_0 (by omega) (by omega) (by omega)
              refine lv_aload_n hx hb dX12_laneOf_152 rfl (lv_at hl 1 rfl) ?_
              refine lv_iload_n hx hb dX12_laneOf_153 rfl (lv_at hl 3 rfl) ?_
              refine lv_iconst (v := 0) hx hb dX12_laneOf_154 (by decide) ?_
              have hPc := hP.sub (ws' := [(mo, .inr (12, [.int v0, .ref m1, .ref m2, .ref m3, .ref m4, .ref m5, .int v6, .int v7, .int v8, .int v9, .int v10, .long v11, .int v12, .int v13, .int v14, .int v15, .ref m16, .ref m17, .ref m18, .ref m19, .ref m20, .ref m21, .ref m22, .ref m23, .int v24, .ref m25, .ref m26, .ref m27, .ref m28, .ref m29, .int v30, .ref m31, .ref m32, .ref m33, .int v34, .int v35, .int v36, .ref m37, .ref m38, .ref m39, .ref m40, .long v41])), (m18, .inl (k 0, 250, .inl f18))]) [0, 2] rfl
              have hDc := hD.sub (ws' := [(mo, .inr (12, [.int v0, .ref m1, .ref m2, .ref m3, .ref m4, .ref m5, .int v6, .int v7, .int v8, .int v9, .int v10, .long v11, .int v12, .int v13, .int v14, .int v15, .ref m16, .ref m17, .ref m18, .ref m19, .ref m20, .ref m21, .ref m22, .ref m23, .int v24, .ref m25, .ref m26, .ref m27, .ref m28, .ref m29, .int v30, .ref m31, .ref m32, .ref m33, .int v34, .int v35, .int v36, .ref m37, .ref m38, .ref m39, .ref m40, .long v41])), (m18, .inl (k 0, 250, .inl f18))]) [0, 2] (by decide) rfl
              have hFc := va_free (wc := [(mo, .inr (12, [.int v0, .ref m1, .ref m2, .ref m3, .ref m4, .ref m5, .int v6, .int v7, .int v8, .int v9, .int v10, .long v11, .int v12, .int v13, .int v14, .int v15, .ref m16, .ref m17, .ref m18, .ref m19, .ref m20, .ref m21, .ref m22, .ref m23, .int v24, .ref m25, .ref m26, .ref m27, .ref m28, .ref m29, .int v30, .ref m31, .ref m32, .ref m33, .int v34, .int v35, .int v36, .ref m37, .ref m38, .ref m39, .ref m40, .long v41])), (m18, .inl (k 0, 250, .inl f18))]) hD hS hA [0, 2] rfl
              refine va_calli (va_runV (C := RX12) (As := [.int L62l2, .int 0]) (rest := [.int x_24]) ⟨hx, hb, hml, hown, hts⟩ (c_X12_takes_ l D k mo L62l2 0 v0 m1 m2 m3 m4 m5 v6 v7 v8 v9 v10 v11 v12 v13 v14 v15 m16 m17 m18 m19 m20 m21 m22 m23 v24 m25 m26 m27 m28 m29 v30 m31 m32 m33 v34 v35 v36 m37 m38 m39 m40 v41 f18 H.size (show 0 ≤ L62l2.toInt ∧ L62l2.toInt ≤ 9 from by omega) (show 0 ≤ v6.toInt ∧ v6.toInt ≤ 1000 from by omega) (show 0 ≤ v24.toInt ∧ v24.toInt ≤ 1023 from by omega) hp_f18_0 hp_f18_1 hp_f18_2 hp_f18_3) (cwV 2 hts (gV tw_7_157 tw_7_159 tw_p_68 tw_1_13 tw_7_160) rfl rfl rfl hdV_X12_takes_ ⟨Nat.le_of_ble_eq_true rfl, Nat.le_of_ble_eq_true rfl⟩) (cz_V hK hPc hDc hN (ci := 12) (q0 := 0) rfl rfl [.int L62l2, .int 0]) rfl rfl hl.1 rfl (lv_room (Nat.le_of_ble_eq_true rfl)) dX12_laneOf_155 ⟨Nat.le_of_ble_eq_true rfl, Nat.le_of_ble_eq_true rfl⟩) hS (fun q _ h => hFc q h) hFc (fun r_25 uZ tZ H1 locs ht hvm hw hB hz1 hk1 hS => ?_)
              obtain ⟨hP1, hK1, hD1⟩ := hB
              rw [ht] at hP1
              obtain ⟨hP, hD⟩ := va_join (wr := [(m17, .inl (k 0, 30, .inl f17)), (m19, .inl (k 0, 40, .inl f19)), (m25, .inl (k 0, 4, .inl f25)), (m26, .inl (k 0, 8, .inl f26))]) (w1 := [(mo, .inr (12, [.int v0, .ref m1, .ref m2, .ref m3, .ref m4, .ref m5, .int v6, .int v7, .int v8, .int v9, .int v10, .long v11, .int v12, .int v13, .int v14, .int v15, .ref m16, .ref m17, .ref m18, .ref m19, .ref m20, .ref m21, .ref m22, .ref m23, .int v24, .ref m25, .ref m26, .ref m27, .ref m28, .ref m29, .int v30, .ref m31, .ref m32, .ref m33, .int v34, .int v35, .int v36, .ref m37, .ref m38, .ref m39, .ref m40, .long v41])), (m18, .inl (k 0, 250, .inl f18))]) hP hD [0, 2] [1, 3, 4, 5] rfl rfl (by decide) (by decide) hk1 hFc hP1 hD1
              clear hK1 hP1 hD1 hPc hDc hFc
              clear hk1 hz1 ht hvm
              have hP : va_P D vwCl [(m17, .inl (k 0, 30, .inl f17)), (m19, .inl (k 0, 40, .inl f19)), (m25, .inl (k 0, 4, .inl f25)), (m26, .inl (k 0, 8, .inl f26)), (mo, .inr (12, [.int v0, .ref m1, .ref m2, .ref m3, .ref m4, .ref m5, .int v6, .int v7, .int v8, .int v9, .int v10, .long v11, .int v12, .int v13, .int v14, .int v15, .ref m16, .ref m17, .ref m18, .ref m19, .ref m20, .ref m21, .ref m22, .ref m23, .int v24, .ref m25, .ref m26, .ref m27, .ref m28, .ref m29, .int v30, .ref m31, .ref m32, .ref m33, .int v34, .int v35, .int v36, .ref m37, .ref m38, .ref m39, .ref m40, .long v41])), (m18, .inl (k 0, 250, .inl f18))] H1 := hP
              have hD : va_D A [(m17, .inl (k 0, 30, .inl f17)), (m19, .inl (k 0, 40, .inl f19)), (m25, .inl (k 0, 4, .inl f25)), (m26, .inl (k 0, 8, .inl f26)), (mo, .inr (12, [.int v0, .ref m1, .ref m2, .ref m3, .ref m4, .ref m5, .int v6, .int v7, .int v8, .int v9, .int v10, .long v11, .int v12, .int v13, .int v14, .int v15, .ref m16, .ref m17, .ref m18, .ref m19, .ref m20, .ref m21, .ref m22, .ref m23, .int v24, .ref m25, .ref m26, .ref m27, .ref m28, .ref m29, .int v30, .ref m31, .ref m32, .ref m33, .int v34, .int v35, .int v36, .ref m37, .ref m38, .ref m39, .ref m40, .long v41])), (m18, .inl (k 0, 250, .inl f18))] := hD
              generalize H1 = H at hP hS ⊢
              have hw_26 : (1 ≤ r_25.toInt ∧ r_25.toInt ≤ 70) := hw
              have hw_27 := hw_26
              clear hw
              refine lv_iadd hx hb dX12_laneOf_158 ?_
              refine lv_topi (fun x_28 ex_28 => ?_)
              have zx_28 : x_28.toInt = x_24.toInt + r_25.toInt := by rw [ex_28]; exact z_add rfl rfl (by omega) (by omega)
              refine lv_aload_n hx hb dX12_laneOf_159 rfl (lv_at hl 1 rfl) ?_
              refine va_get (D := D) (ci := 12) (v := .ref m26) (C := RX12) (T := TX12) (N := 42) hx hb hts iT_X12 hown hK hP 4 rfl rfl 26 (by decide) (hts _ tw_6_79) (fun _ h9 => h9) rfl dX12_laneOf_160 ?_
              refine lv_iload_n hx hb dX12_laneOf_163 rfl (lv_at hl 2 rfl) ?_
              refine va_iald hx hb hK hP 3 0 rfl rfl (z_in (by omega) (by omega)) dX12_laneOf_164 ?_
              refine lv_topi (fun x_29 ex_29 => ?_)
              obtain rfl : x_1 = x_29 := ex_1.trans ex_29.symm
              refine lv_icmp_ne (tgt := 170) hx hb dX12_laneOf_165 (by decide) (fun h_30 => ?_) (fun h_30 => ?_)
              · skip
                have zh_30 : ¬ x_28.toInt = x_1.toInt := z_ne h_30
                obtain ⟨x_31, ex_31⟩ : ∃ y : Int32, y = L62l2 + 1 := ⟨_, rfl⟩
                have zx_31 : x_31.toInt = L62l2.toInt + 1 := by rw [ex_31]; exact z_add rfl rfl (by omega) (by omega)
                refine lv_iinc (v := x_31) (lv' := [(2, .int x_31), (3, .int x_17), (0, .ref mo), (1, .int p0)]) hx hb dX12_laneOf_170 hl (k := 3) rfl (by rw [ex_31]; rfl) (by decide) rfl (fun ls hl => ?_)
                refine lv_goto (tgt := 62) hx hb dX12_laneOf_173 (by decide) ?_
                exact ih_7 _ _ _ _ (by omega) ⟨x_31, rfl, (show 0 ≤ x_31.toInt ∧ x_31.toInt ≤ 10 from by omega), hP.sub (ws' := [(mo, .inr (12, [.int v0, .ref m1, .ref m2, .ref m3, .ref m4, .ref m5, .int v6, .int v7, .int v8, .int v9, .int v10, .long v11, .int v12, .int v13, .int v14, .int v15, .ref m16, .ref m17, .ref m18, .ref m19, .ref m20, .ref m21, .ref m22, .ref m23, .int v24, .ref m25, .ref m26, .ref m27, .ref m28, .ref m29, .int v30, .ref m31, .ref m32, .ref m33, .int v34, .int v35, .int v36, .ref m37, .ref m38, .ref m39, .ref m40, .long v41])), (m17, .inl (k 0, 30, .inl f17)), (m18, .inl (k 0, 250, .inl f18)), (m19, .inl (k 0, 40, .inl f19)), (m25, .inl (k 0, 4, .inl f25)), (m26, .inl (k 0, 8, .inl f26))]) [4, 0, 5, 1, 2, 3] rfl, hD.sub (ws' := [(mo, .inr (12, [.int v0, .ref m1, .ref m2, .ref m3, .ref m4, .ref m5, .int v6, .int v7, .int v8, .int v9, .int v10, .long v11, .int v12, .int v13, .int v14, .int v15, .ref m16, .ref m17, .ref m18, .ref m19, .ref m20, .ref m21, .ref m22, .ref m23, .int v24, .ref m25, .ref m26, .ref m27, .ref m28, .ref m29, .int v30, .ref m31, .ref m32, .ref m33, .int v34, .int v35, .int v36, .ref m37, .ref m38, .ref m39, .ref m40, .long v41])), (m17, .inl (k 0, 30, .inl f17)), (m18, .inl (k 0, 250, .inl f18)), (m19, .inl (k 0, 40, .inl f19)), (m25, .inl (k 0, 4, .inl f25)), (m26, .inl (k 0, 8, .inl f26))]) [4, 0, 5, 1, 2, 3] (by decide) rfl, hS, lv_sub hl [2, 3, 0] rfl⟩
              · skip
                have zh_30 : x_28.toInt = x_1.toInt := z_eq h_30
                refine lv_iload_n hx hb dX12_laneOf_168 rfl (lv_at hl 3 rfl) ?_
                have hP9 := hP.sub (ws' := [(mo, .inr (12, [.int v0, .ref m1, .ref m2, .ref m3, .ref m4, .ref m5, .int v6, .int v7, .int v8, .int v9, .int v10, .long v11, .int v12, .int v13, .int v14, .int v15, .ref m16, .ref m17, .ref m18, .ref m19, .ref m20, .ref m21, .ref m22, .ref m23, .int v24, .ref m25, .ref m26, .ref m27, .ref m28, .ref m29, .int v30, .ref m31, .ref m32, .ref m33, .int v34, .int v35, .int v36, .ref m37, .ref m38, .ref m39, .ref m40, .long v41])), (m17, .inl (k 0, 30, .inl f17)), (m18, .inl (k 0, 250, .inl f18)), (m19, .inl (k 0, 40, .inl f19)), (m25, .inl (k 0, 4, .inl f25)), (m26, .inl (k 0, 8, .inl f26))]) [4, 0, 5, 1, 2, 3] rfl
                have hD9 := hD.sub (ws' := [(mo, .inr (12, [.int v0, .ref m1, .ref m2, .ref m3, .ref m4, .ref m5, .int v6, .int v7, .int v8, .int v9, .int v10, .long v11, .int v12, .int v13, .int v14, .int v15, .ref m16, .ref m17, .ref m18, .ref m19, .ref m20, .ref m21, .ref m22, .ref m23, .int v24, .ref m25, .ref m26, .ref m27, .ref m28, .ref m29, .int v30, .ref m31, .ref m32, .ref m33, .int v34, .int v35, .int v36, .ref m37, .ref m38, .ref m39, .ref m40, .long v41])), (m17, .inl (k 0, 30, .inl f17)), (m18, .inl (k 0, 250, .inl f18)), (m19, .inl (k 0, 40, .inl f19)), (m25, .inl (k 0, 4, .inl f25)), (m26, .inl (k 0, 8, .inl f26))]) [4, 0, 5, 1, 2, 3] (by decide) rfl
                exact W.iret (v := L62l2) hx hb hr (fun tZ ht hW => ⟨⟨L62l2, (), rfl, (show (-1) ≤ L62l2.toInt ∧ L62l2.toInt ≤ 9 from by omega), by rw [ht]; exact hP9, va_K.moved hW.alike hK, hD9⟩, hS.F ht⟩) hS.2.2 dX12_laneOf_169
            · skip
              have zh_21 : x_17.toInt = p0.toInt := z_eq h_21
              refine lv_aload_n hx hb dX12_laneOf_124 rfl (lv_at hl 0 rfl) ?_
              refine va_get (D := D) (ci := 12) (v := .ref m18) (C := RX12) (T := TX12) (N := 42) hx hb hts iT_X12 hown hK hP 0 rfl rfl 18 (by decide) (hts _ tw_6_71) (fun _ h9 => h9) rfl dX12_laneOf_125 ?_
              refine lv_iconst (v := 5) hx hb dX12_laneOf_128 (by decide) ?_
              refine lv_iload_n hx hb dX12_laneOf_129 rfl (lv_at hl 2 rfl) ?_
              refine lv_imul hx hb dX12_laneOf_130 ?_
              refine lv_topi (fun x_32 ex_32 => ?_)
              obtain rfl : x_16 = x_32 := ex_16.trans ex_32.symm
              refine lv_iconst (v := 1) hx hb dX12_laneOf_131 (by decide) ?_
              refine lv_iadd hx hb dX12_laneOf_132 ?_
              refine lv_topi (fun x_33 ex_33 => ?_)
              have zx_33 : x_33.toInt = x_16.toInt + 1 := by rw [ex_33]; exact z_add rfl rfl (by omega) (by omega)
              refine va_iald hx hb hK hP 2 0 rfl rfl (z_in (by omega) (by omega)) dX12_laneOf_133 ?_
              refine lv_topi (fun x_34 ex_34 => ?_)
              have zx_34r1 : 0 ≤ x_34.toInt ∧ x_34.toInt ≤ 7 := by rw [ex_34]; exact PR.ld hp_f18_1 (by omega) (by omega) (by omega)
              refine lv_goto (tgt := 145) hx hb dX12_laneOf_134 (by decide) ?_
              refine lv_istore_n (lv' := [(3, .int x_34), (0, .ref mo), (1, .int p0), (2, .int L62l2)]) hx hb dX12_laneOf_145 rfl hl (by decide) rfl (fun ls hl => ?_)
              refine lv_aload_n hx hb dX12_laneOf_146 rfl (lv_at hl 1 rfl) ?_
              refine va_get (D := D) (ci := 12) (v := .ref m26) (C := RX12) (T := TX12) (N := 42) hx hb hts iT_X12 hown hK hP 0 rfl rfl 26 (by decide) (hts _ tw_6_79) (fun _ h9 => h9) rfl dX12_laneOf_147 ?_
              refine lv_iload_n hx hb dX12_laneOf_150 rfl (lv_at hl 0 rfl) ?_
              refine va_iald hx hb hK hP 5 0 rfl rfl (z_in (by omega) (by omega)) dX12_laneOf_151 ?_
              refine lv_topi (fun x_35 ex_35 => ?_)
              have zx_35r0 : 0 ≤ x_35.toInt ∧ x_35.toInt ≤ 100000 := by rw [ex_35]; exact PR.ld hp_f26_0 (by omega) (by omega) (by omega)
              refine lv_aload_n hx hb dX12_laneOf_152 rfl (lv_at hl 1 rfl) ?_
              refine lv_iload_n hx hb dX12_laneOf_153 rfl (lv_at hl 3 rfl) ?_
              refine lv_iconst (v := 0) hx hb dX12_laneOf_154 (by decide) ?_
              have hPc := hP.sub (ws' := [(mo, .inr (12, [.int v0, .ref m1, .ref m2, .ref m3, .ref m4, .ref m5, .int v6, .int v7, .int v8, .int v9, .int v10, .long v11, .int v12, .int v13, .int v14, .int v15, .ref m16, .ref m17, .ref m18, .ref m19, .ref m20, .ref m21, .ref m22, .ref m23, .int v24, .ref m25, .ref m26, .ref m27, .ref m28, .ref m29, .int v30, .ref m31, .ref m32, .ref m33, .int v34, .int v35, .int v36, .ref m37, .ref m38, .ref m39, .ref m40, .long v41])), (m18, .inl (k 0, 250, .inl f18))]) [0, 2] rfl
              have hDc := hD.sub (ws' := [(mo, .inr (12, [.int v0, .ref m1, .ref m2, .ref m3, .ref m4, .ref m5, .int v6, .int v7, .int v8, .int v9, .int v10, .long v11, .int v12, .int v13, .int v14, .int v15, .ref m16, .ref m17, .ref m18, .ref m19, .ref m20, .ref m21, .ref m22, .ref m23, .int v24, .ref m25, .ref m26, .ref m27, .ref m28, .ref m29, .int v30, .ref m31, .ref m32, .ref m33, .int v34, .int v35, .int v36, .ref m37, .ref m38, .ref m39, .ref m40, .long v41])), (m18, .inl (k 0, 250, .inl f18))]) [0, 2] (by decide) rfl
              have hFc := va_free (wc := [(mo, .inr (12, [.int v0, .ref m1, .ref m2, .ref m3, .ref m4, .ref m5, .int v6, .int v7, .int v8, .int v9, .int v10, .long v11, .int v12, .int v13, .int v14, .int v15, .ref m16, .ref m17, .ref m18, .ref m19, .ref m20, .ref m21, .ref m22, .ref m23, .int v24, .ref m25, .ref m26, .ref m27, .ref m28, .ref m29, .int v30, .ref m31, .ref m32, .ref m33, .int v34, .int v35, .int v36, .ref m37, .ref m38, .ref m39, .ref m40, .long v41])), (m18, .inl (k 0, 250, .inl f18))]) hD hS hA [0, 2] rfl
              refine va_calli (va_runV (C := RX12) (As := [.int L62l2, .int 0]) (rest := [.int x_35]) ⟨hx, hb, hml, hown, hts⟩ (c_X12_takes_ l D k mo L62l2 0 v0 m1 m2 m3 m4 m5 v6 v7 v8 v9 v10 v11 v12 v13 v14 v15 m16 m17 m18 m19 m20 m21 m22 m23 v24 m25 m26 m27 m28 m29 v30 m31 m32 m33 v34 v35 v36 m37 m38 m39 m40 v41 f18 H.size (show 0 ≤ L62l2.toInt ∧ L62l2.toInt ≤ 9 from by omega) (show 0 ≤ v6.toInt ∧ v6.toInt ≤ 1000 from by omega) (show 0 ≤ v24.toInt ∧ v24.toInt ≤ 1023 from by omega) hp_f18_0 hp_f18_1 hp_f18_2 hp_f18_3) (cwV 2 hts (gV tw_7_157 tw_7_159 tw_p_68 tw_1_13 tw_7_160) rfl rfl rfl hdV_X12_takes_ ⟨Nat.le_of_ble_eq_true rfl, Nat.le_of_ble_eq_true rfl⟩) (cz_V hK hPc hDc hN (ci := 12) (q0 := 0) rfl rfl [.int L62l2, .int 0]) rfl rfl hl.1 rfl (lv_room (Nat.le_of_ble_eq_true rfl)) dX12_laneOf_155 ⟨Nat.le_of_ble_eq_true rfl, Nat.le_of_ble_eq_true rfl⟩) hS (fun q _ h => hFc q h) hFc (fun r_36 uZ tZ H1 locs ht hvm hw hB hz1 hk1 hS => ?_)
              obtain ⟨hP1, hK1, hD1⟩ := hB
              rw [ht] at hP1
              obtain ⟨hP, hD⟩ := va_join (wr := [(m17, .inl (k 0, 30, .inl f17)), (m19, .inl (k 0, 40, .inl f19)), (m25, .inl (k 0, 4, .inl f25)), (m26, .inl (k 0, 8, .inl f26))]) (w1 := [(mo, .inr (12, [.int v0, .ref m1, .ref m2, .ref m3, .ref m4, .ref m5, .int v6, .int v7, .int v8, .int v9, .int v10, .long v11, .int v12, .int v13, .int v14, .int v15, .ref m16, .ref m17, .ref m18, .ref m19, .ref m20, .ref m21, .ref m22, .ref m23, .int v24, .ref m25, .ref m26, .ref m27, .ref m28, .ref m29, .int v30, .ref m31, .ref m32, .ref m33, .int v34, .int v35, .int v36, .ref m37, .ref m38, .ref m39, .ref m40, .long v41])), (m18, .inl (k 0, 250, .inl f18))]) hP hD [0, 2] [1, 3, 4, 5] rfl rfl (by decide) (by decide) hk1 hFc hP1 hD1
              clear hK1 hP1 hD1 hPc hDc hFc
              clear hk1 hz1 ht hvm
              have hP : va_P D vwCl [(m17, .inl (k 0, 30, .inl f17)), (m19, .inl (k 0, 40, .inl f19)), (m25, .inl (k 0, 4, .inl f25)), (m26, .inl (k 0, 8, .inl f26)), (mo, .inr (12, [.int v0, .ref m1, .ref m2, .ref m3, .ref m4, .ref m5, .int v6, .int v7, .int v8, .int v9, .int v10, .long v11, .int v12, .int v13, .int v14, .int v15, .ref m16, .ref m17, .ref m18, .ref m19, .ref m20, .ref m21, .ref m22, .ref m23, .int v24, .ref m25, .ref m26, .ref m27, .ref m28, .ref m29, .int v30, .ref m31, .ref m32, .ref m33, .int v34, .int v35, .int v36, .ref m37, .ref m38, .ref m39, .ref m40, .long v41])), (m18, .inl (k 0, 250, .inl f18))] H1 := hP
              have hD : va_D A [(m17, .inl (k 0, 30, .inl f17)), (m19, .inl (k 0, 40, .inl f19)), (m25, .inl (k 0, 4, .inl f25)), (m26, .inl (k 0, 8, .inl f26)), (mo, .inr (12, [.int v0, .ref m1, .ref m2, .ref m3, .ref m4, .ref m5, .int v6, .int v7, .int v8, .int v9, .int v10, .long v11, .int v12, .int v13, .int v14, .int v15, .ref m16, .ref m17, .ref m18, .ref m19, .ref m20, .ref m21, .ref m22, .ref m23, .int v24, .ref m25, .ref m26, .ref m27, .ref m28, .ref m29, .int v30, .ref m31, .ref m32, .ref m33, .int v34, .int v35, .int v36, .ref m37, .ref m38, .ref m39, .ref m40, .long v41])), (m18, .inl (k 0, 250, .inl f18))] := hD
              generalize H1 = H at hP hS ⊢
              have hw_37 : (1 ≤ r_36.toInt ∧ r_36.toInt ≤ 70) := hw
              have hw_38 := hw_37
              clear hw
              refine lv_iadd hx hb dX12_laneOf_158 ?_
              refine lv_topi (fun x_39 ex_39 => ?_)
              have zx_39 : x_39.toInt = x_35.toInt + r_36.toInt := by rw [ex_39]; exact z_add rfl rfl (by omega) (by omega)
              refine lv_aload_n hx hb dX12_laneOf_159 rfl (lv_at hl 1 rfl) ?_
              refine va_get (D := D) (ci := 12) (v := .ref m26) (C := RX12) (T := TX12) (N := 42) hx hb hts iT_X12 hown hK hP 4 rfl rfl 26 (by decide) (hts _ tw_6_79) (fun _ h9 => h9) rfl dX12_laneOf_160 ?_
              refine lv_iload_n hx hb dX12_laneOf_163 rfl (lv_at hl 2 rfl) ?_
              refine va_iald hx hb hK hP 3 0 rfl rfl (z_in (by omega) (by omega)) dX12_laneOf_164 ?_
              refine lv_topi (fun x_40 ex_40 => ?_)
              obtain rfl : x_1 = x_40 := ex_1.trans ex_40.symm
              refine lv_icmp_ne (tgt := 170) hx hb dX12_laneOf_165 (by decide) (fun h_41 => ?_) (fun h_41 => ?_)
              · skip
                have zh_41 : ¬ x_39.toInt = x_1.toInt := z_ne h_41
                obtain ⟨x_42, ex_42⟩ : ∃ y : Int32, y = L62l2 + 1 := ⟨_, rfl⟩
                have zx_42 : x_42.toInt = L62l2.toInt + 1 := by rw [ex_42]; exact z_add rfl rfl (by omega) (by omega)
                refine lv_iinc (v := x_42) (lv' := [(2, .int x_42), (3, .int x_34), (0, .ref mo), (1, .int p0)]) hx hb dX12_laneOf_170 hl (k := 3) rfl (by rw [ex_42]; rfl) (by decide) rfl (fun ls hl => ?_)
                refine lv_goto (tgt := 62) hx hb dX12_laneOf_173 (by decide) ?_
                exact ih_7 _ _ _ _ (by omega) ⟨x_42, rfl, (show 0 ≤ x_42.toInt ∧ x_42.toInt ≤ 10 from by omega), hP.sub (ws' := [(mo, .inr (12, [.int v0, .ref m1, .ref m2, .ref m3, .ref m4, .ref m5, .int v6, .int v7, .int v8, .int v9, .int v10, .long v11, .int v12, .int v13, .int v14, .int v15, .ref m16, .ref m17, .ref m18, .ref m19, .ref m20, .ref m21, .ref m22, .ref m23, .int v24, .ref m25, .ref m26, .ref m27, .ref m28, .ref m29, .int v30, .ref m31, .ref m32, .ref m33, .int v34, .int v35, .int v36, .ref m37, .ref m38, .ref m39, .ref m40, .long v41])), (m17, .inl (k 0, 30, .inl f17)), (m18, .inl (k 0, 250, .inl f18)), (m19, .inl (k 0, 40, .inl f19)), (m25, .inl (k 0, 4, .inl f25)), (m26, .inl (k 0, 8, .inl f26))]) [4, 0, 5, 1, 2, 3] rfl, hD.sub (ws' := [(mo, .inr (12, [.int v0, .ref m1, .ref m2, .ref m3, .ref m4, .ref m5, .int v6, .int v7, .int v8, .int v9, .int v10, .long v11, .int v12, .int v13, .int v14, .int v15, .ref m16, .ref m17, .ref m18, .ref m19, .ref m20, .ref m21, .ref m22, .ref m23, .int v24, .ref m25, .ref m26, .ref m27, .ref m28, .ref m29, .int v30, .ref m31, .ref m32, .ref m33, .int v34, .int v35, .int v36, .ref m37, .ref m38, .ref m39, .ref m40, .long v41])), (m17, .inl (k 0, 30, .inl f17)), (m18, .inl (k 0, 250, .inl f18)), (m19, .inl (k 0, 40, .inl f19)), (m25, .inl (k 0, 4, .inl f25)), (m26, .inl (k 0, 8, .inl f26))]) [4, 0, 5, 1, 2, 3] (by decide) rfl, hS, lv_sub hl [2, 3, 0] rfl⟩
              · skip
                have zh_41 : x_39.toInt = x_1.toInt := z_eq h_41
                refine lv_iload_n hx hb dX12_laneOf_168 rfl (lv_at hl 3 rfl) ?_
                have hP9 := hP.sub (ws' := [(mo, .inr (12, [.int v0, .ref m1, .ref m2, .ref m3, .ref m4, .ref m5, .int v6, .int v7, .int v8, .int v9, .int v10, .long v11, .int v12, .int v13, .int v14, .int v15, .ref m16, .ref m17, .ref m18, .ref m19, .ref m20, .ref m21, .ref m22, .ref m23, .int v24, .ref m25, .ref m26, .ref m27, .ref m28, .ref m29, .int v30, .ref m31, .ref m32, .ref m33, .int v34, .int v35, .int v36, .ref m37, .ref m38, .ref m39, .ref m40, .long v41])), (m17, .inl (k 0, 30, .inl f17)), (m18, .inl (k 0, 250, .inl f18)), (m19, .inl (k 0, 40, .inl f19)), (m25, .inl (k 0, 4, .inl f25)), (m26, .inl (k 0, 8, .inl f26))]) [4, 0, 5, 1, 2, 3] rfl
                have hD9 := hD.sub (ws' := [(mo, .inr (12, [.int v0, .ref m1, .ref m2, .ref m3, .ref m4, .ref m5, .int v6, .int v7, .int v8, .int v9, .int v10, .long v11, .int v12, .int v13, .int v14, .int v15, .ref m16, .ref m17, .ref m18, .ref m19, .ref m20, .ref m21, .ref m22, .ref m23, .int v24, .ref m25, .ref m26, .ref m27, .ref m28, .ref m29, .int v30, .ref m31, .ref m32, .ref m33, .int v34, .int v35, .int v36, .ref m37, .ref m38, .ref m39, .ref m40, .long v41])), (m17, .inl (k 0, 30, .inl f17)), (m18, .inl (k 0, 250, .inl f18)), (m19, .inl (k 0, 40, .inl f19)), (m25, .inl (k 0, 4, .inl f25)), (m26, .inl (k 0, 8, .inl f26))]) [4, 0, 5, 1, 2, 3] (by decide) rfl
                exact W.iret (v := L62l2) hx hb hr (fun tZ ht hW => ⟨⟨L62l2, (), rfl, (show (-1) ≤ L62l2.toInt ∧ L62l2.toInt ≤ 9 from by omega), by rw [ht]; exact hP9, va_K.moved hW.alike hK, hD9⟩, hS.F ht⟩) hS.2.2 dX12_laneOf_169
          · skip
            have zh_18 : ¬ x_17.toInt = p0.toInt := z_ne h_18
            refine lv_aload_n hx hb dX12_laneOf_95 rfl (lv_at hl 0 rfl) ?_
            refine va_get (D := D) (ci := 12) (v := .ref m18) (C := RX12) (T := TX12) (N := 42) hx hb hts iT_X12 hown hK hP 0 rfl rfl 18 (by decide) (hts _ tw_6_71) (fun _ h9 => h9) rfl dX12_laneOf_96 ?_
            refine lv_iconst (v := 5) hx hb dX12_laneOf_99 (by decide) ?_
            refine lv_iload_n hx hb dX12_laneOf_100 rfl (lv_at hl 2 rfl) ?_
            refine lv_imul hx hb dX12_laneOf_101 ?_
            refine lv_topi (fun x_43 ex_43 => ?_)
            obtain rfl : x_16 = x_43 := ex_16.trans ex_43.symm
            refine lv_iconst (v := 1) hx hb dX12_laneOf_102 (by decide) ?_
            refine lv_iadd hx hb dX12_laneOf_103 ?_
            refine lv_topi (fun x_44 ex_44 => ?_)
            have zx_44 : x_44.toInt = x_16.toInt + 1 := by rw [ex_44]; exact z_add rfl rfl (by omega) (by omega)
            refine va_iald hx hb hK hP 2 0 rfl rfl (z_in (by omega) (by omega)) dX12_laneOf_104 ?_
            refine lv_topi (fun x_45 ex_45 => ?_)
            have zx_45r1 : 0 ≤ x_45.toInt ∧ x_45.toInt ≤ 7 := by rw [ex_45]; exact PR.ld hp_f18_1 (by omega) (by omega) (by omega)
            refine lv_iload_n hx hb dX12_laneOf_105 rfl (lv_at hl 1 rfl) ?_
            refine lv_icmp_eq (tgt := 112) hx hb dX12_laneOf_106 (by decide) (fun h_46 => ?_) (fun h_46 => ?_)
            · skip
              have zh_46 : x_45.toInt = p0.toInt := z_eq h_46
              refine lv_aload_n hx hb dX12_laneOf_112 rfl (lv_at hl 0 rfl) ?_
              refine va_get (D := D) (ci := 12) (v := .ref m18) (C := RX12) (T := TX12) (N := 42) hx hb hts iT_X12 hown hK hP 0 rfl rfl 18 (by decide) (hts _ tw_6_71) (fun _ h9 => h9) rfl dX12_laneOf_113 ?_
              refine lv_iconst (v := 5) hx hb dX12_laneOf_116 (by decide) ?_
              refine lv_iload_n hx hb dX12_laneOf_117 rfl (lv_at hl 2 rfl) ?_
              refine lv_imul hx hb dX12_laneOf_118 ?_
              refine lv_topi (fun x_47 ex_47 => ?_)
              obtain rfl : x_16 = x_47 := ex_16.trans ex_47.symm
              refine va_iald hx hb hK hP 2 0 rfl rfl (z_in (by omega) (by omega)) dX12_laneOf_119 ?_
              refine lv_topi (fun x_48 ex_48 => ?_)
              obtain rfl : x_17 = x_48 := ex_17.trans ex_48.symm
              refine lv_iload_n hx hb dX12_laneOf_120 rfl (lv_at hl 1 rfl) ?_
              refine lv_icmp_ne (tgt := 137) hx hb dX12_laneOf_121 (by decide) (fun h_49 => ?_) (fun h_49 => ?_)
              · skip
                have zh_49 : ¬ x_17.toInt = p0.toInt := z_ne h_49
                refine lv_aload_n hx hb dX12_laneOf_137 rfl (lv_at hl 0 rfl) ?_
                refine va_get (D := D) (ci := 12) (v := .ref m18) (C := RX12) (T := TX12) (N := 42) hx hb hts iT_X12 hown hK hP 0 rfl rfl 18 (by decide) (hts _ tw_6_71) (fun _ h9 => h9) rfl dX12_laneOf_138 ?_
                refine lv_iconst (v := 5) hx hb dX12_laneOf_141 (by decide) ?_
                refine lv_iload_n hx hb dX12_laneOf_142 rfl (lv_at hl 2 rfl) ?_
                refine lv_imul hx hb dX12_laneOf_143 ?_
                refine lv_topi (fun x_50 ex_50 => ?_)
                obtain rfl : x_16 = x_50 := ex_16.trans ex_50.symm
                refine va_iald hx hb hK hP 2 0 rfl rfl (z_in (by omega) (by omega)) dX12_laneOf_144 ?_
                refine lv_topi (fun x_51 ex_51 => ?_)
                obtain rfl : x_17 = x_51 := ex_17.trans ex_51.symm
                refine lv_istore_n (lv' := [(3, .int x_17), (0, .ref mo), (1, .int p0), (2, .int L62l2)]) hx hb dX12_laneOf_145 rfl hl (by decide) rfl (fun ls hl => ?_)
                refine lv_aload_n hx hb dX12_laneOf_146 rfl (lv_at hl 1 rfl) ?_
                refine va_get (D := D) (ci := 12) (v := .ref m26) (C := RX12) (T := TX12) (N := 42) hx hb hts iT_X12 hown hK hP 0 rfl rfl 26 (by decide) (hts _ tw_6_79) (fun _ h9 => h9) rfl dX12_laneOf_147 ?_
                refine lv_iload_n hx hb dX12_laneOf_150 rfl (lv_at hl 0 rfl) ?_
                refine va_iald hx hb hK hP 5 0 rfl rfl (z_in (by omega) (by omega)) dX12_laneOf_151 ?_
                refine lv_topi (fun x_52 ex_52 => ?_)
                have zx_52r0 : 0 ≤ x_52.toInt ∧ x_52.toInt ≤ 100000 := by rw [ex_52]; exact PR.ld hp_f26_0 (by omega) (by omega) (by omega)
                refine lv_aload_n hx hb dX12_laneOf_152 rfl (lv_at hl 1 rfl) ?_
                refine lv_iload_n hx hb dX12_laneOf_153 rfl (lv_at hl 3 rfl) ?_
                refine lv_iconst (v := 0) hx hb dX12_laneOf_154 (by decide) ?_
                have hPc := hP.sub (ws' := [(mo, .inr (12, [.int v0, .ref m1, .ref m2, .ref m3, .ref m4, .ref m5, .int v6, .int v7, .int v8, .int v9, .int v10, .long v11, .int v12, .int v13, .int v14, .int v15, .ref m16, .ref m17, .ref m18, .ref m19, .ref m20, .ref m21, .ref m22, .ref m23, .int v24, .ref m25, .ref m26, .ref m27, .ref m28, .ref m29, .int v30, .ref m31, .ref m32, .ref m33, .int v34, .int v35, .int v36, .ref m37, .ref m38, .ref m39, .ref m40, .long v41])), (m18, .inl (k 0, 250, .inl f18))]) [0, 2] rfl
                have hDc := hD.sub (ws' := [(mo, .inr (12, [.int v0, .ref m1, .ref m2, .ref m3, .ref m4, .ref m5, .int v6, .int v7, .int v8, .int v9, .int v10, .long v11, .int v12, .int v13, .int v14, .int v15, .ref m16, .ref m17, .ref m18, .ref m19, .ref m20, .ref m21, .ref m22, .ref m23, .int v24, .ref m25, .ref m26, .ref m27, .ref m28, .ref m29, .int v30, .ref m31, .ref m32, .ref m33, .int v34, .int v35, .int v36, .ref m37, .ref m38, .ref m39, .ref m40, .long v41])), (m18, .inl (k 0, 250, .inl f18))]) [0, 2] (by decide) rfl
                have hFc := va_free (wc := [(mo, .inr (12, [.int v0, .ref m1, .ref m2, .ref m3, .ref m4, .ref m5, .int v6, .int v7, .int v8, .int v9, .int v10, .long v11, .int v12, .int v13, .int v14, .int v15, .ref m16, .ref m17, .ref m18, .ref m19, .ref m20, .ref m21, .ref m22, .ref m23, .int v24, .ref m25, .ref m26, .ref m27, .ref m28, .ref m29, .int v30, .ref m31, .ref m32, .ref m33, .int v34, .int v35, .int v36, .ref m37, .ref m38, .ref m39, .ref m40, .long v41])), (m18, .inl (k 0, 250, .inl f18))]) hD hS hA [0, 2] rfl
                refine va_calli (va_runV (C := RX12) (As := [.int L62l2, .int 0]) (rest := [.int x_52]) ⟨hx, hb, hml, hown, hts⟩ (c_X12_takes_ l D k mo L62l2 0 v0 m1 m2 m3 m4 m5 v6 v7 v8 v9 v10 v11 v12 v13 v14 v15 m16 m17 m18 m19 m20 m21 m22 m23 v24 m25 m26 m27 m28 m29 v30 m31 m32 m33 v34 v35 v36 m37 m38 m39 m40 v41 f18 H.size (show 0 ≤ L62l2.toInt ∧ L62l2.toInt ≤ 9 from by omega) (show 0 ≤ v6.toInt ∧ v6.toInt ≤ 1000 from by omega) (show 0 ≤ v24.toInt ∧ v24.toInt ≤ 1023 from by omega) hp_f18_0 hp_f18_1 hp_f18_2 hp_f18_3) (cwV 2 hts (gV tw_7_157 tw_7_159 tw_p_68 tw_1_13 tw_7_160) rfl rfl rfl hdV_X12_takes_ ⟨Nat.le_of_ble_eq_true rfl, Nat.le_of_ble_eq_true rfl⟩) (cz_V hK hPc hDc hN (ci := 12) (q0 := 0) rfl rfl [.int L62l2, .int 0]) rfl rfl hl.1 rfl (lv_room (Nat.le_of_ble_eq_true rfl)) dX12_laneOf_155 ⟨Nat.le_of_ble_eq_true rfl, Nat.le_of_ble_eq_true rfl⟩) hS (fun q _ h => hFc q h) hFc (fun r_53 uZ tZ H1 locs ht hvm hw hB hz1 hk1 hS => ?_)
                obtain ⟨hP1, hK1, hD1⟩ := hB
                rw [ht] at hP1
                obtain ⟨hP, hD⟩ := va_join (wr := [(m17, .inl (k 0, 30, .inl f17)), (m19, .inl (k 0, 40, .inl f19)), (m25, .inl (k 0, 4, .inl f25)), (m26, .inl (k 0, 8, .inl f26))]) (w1 := [(mo, .inr (12, [.int v0, .ref m1, .ref m2, .ref m3, .ref m4, .ref m5, .int v6, .int v7, .int v8, .int v9, .int v10, .long v11, .int v12, .int v13, .int v14, .int v15, .ref m16, .ref m17, .ref m18, .ref m19, .ref m20, .ref m21, .ref m22, .ref m23, .int v24, .ref m25, .ref m26, .ref m27, .ref m28, .ref m29, .int v30, .ref m31, .ref m32, .ref m33, .int v34, .int v35, .int v36, .ref m37, .ref m38, .ref m39, .ref m40, .long v41])), (m18, .inl (k 0, 250, .inl f18))]) hP hD [0, 2] [1, 3, 4, 5] rfl rfl (by decide) (by decide) hk1 hFc hP1 hD1
                clear hK1 hP1 hD1 hPc hDc hFc
                clear hk1 hz1 ht hvm
                have hP : va_P D vwCl [(m17, .inl (k 0, 30, .inl f17)), (m19, .inl (k 0, 40, .inl f19)), (m25, .inl (k 0, 4, .inl f25)), (m26, .inl (k 0, 8, .inl f26)), (mo, .inr (12, [.int v0, .ref m1, .ref m2, .ref m3, .ref m4, .ref m5, .int v6, .int v7, .int v8, .int v9, .int v10, .long v11, .int v12, .int v13, .int v14, .int v15, .ref m16, .ref m17, .ref m18, .ref m19, .ref m20, .ref m21, .ref m22, .ref m23, .int v24, .ref m25, .ref m26, .ref m27, .ref m28, .ref m29, .int v30, .ref m31, .ref m32, .ref m33, .int v34, .int v35, .int v36, .ref m37, .ref m38, .ref m39, .ref m40, .long v41])), (m18, .inl (k 0, 250, .inl f18))] H1 := hP
                have hD : va_D A [(m17, .inl (k 0, 30, .inl f17)), (m19, .inl (k 0, 40, .inl f19)), (m25, .inl (k 0, 4, .inl f25)), (m26, .inl (k 0, 8, .inl f26)), (mo, .inr (12, [.int v0, .ref m1, .ref m2, .ref m3, .ref m4, .ref m5, .int v6, .int v7, .int v8, .int v9, .int v10, .long v11, .int v12, .int v13, .int v14, .int v15, .ref m16, .ref m17, .ref m18, .ref m19, .ref m20, .ref m21, .ref m22, .ref m23, .int v24, .ref m25, .ref m26, .ref m27, .ref m28, .ref m29, .int v30, .ref m31, .ref m32, .ref m33, .int v34, .int v35, .int v36, .ref m37, .ref m38, .ref m39, .ref m40, .long v41])), (m18, .inl (k 0, 250, .inl f18))] := hD
                generalize H1 = H at hP hS ⊢
                have hw_54 : (1 ≤ r_53.toInt ∧ r_53.toInt ≤ 70) := hw
                have hw_55 := hw_54
                clear hw
                refine lv_iadd hx hb dX12_laneOf_158 ?_
                refine lv_topi (fun x_56 ex_56 => ?_)
                have zx_56 : x_56.toInt = x_52.toInt + r_53.toInt := by rw [ex_56]; exact z_add rfl rfl (by omega) (by omega)
                refine lv_aload_n hx hb dX12_laneOf_159 rfl (lv_at hl 1 rfl) ?_
                refine va_get (D := D) (ci := 12) (v := .ref m26) (C := RX12) (T := TX12) (N := 42) hx hb hts iT_X12 hown hK hP 4 rfl rfl 26 (by decide) (hts _ tw_6_79) (fun _ h9 => h9) rfl dX12_laneOf_160 ?_
                refine lv_iload_n hx hb dX12_laneOf_163 rfl (lv_at hl 2 rfl) ?_
                refine va_iald hx hb hK hP 3 0 rfl rfl (z_in (by omega) (by omega)) dX12_laneOf_164 ?_
                refine lv_topi (fun x_57 ex_57 => ?_)
                obtain rfl : x_1 = x_57 := ex_1.trans ex_57.symm
                refine lv_icmp_ne (tgt := 170) hx hb dX12_laneOf_165 (by decide) (fun h_58 => ?_) (fun h_58 => ?_)
                · skip
                  have zh_58 : ¬ x_56.toInt = x_1.toInt := z_ne h_58
                  obtain ⟨x_59, ex_59⟩ : ∃ y : Int32, y = L62l2 + 1 := ⟨_, rfl⟩
                  have zx_59 : x_59.toInt = L62l2.toInt + 1 := by rw [ex_59]; exact z_add rfl rfl (by omega) (by omega)
                  refine lv_iinc (v := x_59) (lv' := [(2, .int x_59), (3, .int x_17), (0, .ref mo), (1, .int p0)]) hx hb dX12_laneOf_170 hl (k := 3) rfl (by rw [ex_59]; rfl) (by decide) rfl (fun ls hl => ?_)
                  refine lv_goto (tgt := 62) hx hb dX12_laneOf_173 (by decide) ?_
                  exact ih_7 _ _ _ _ (by omega) ⟨x_59, rfl, (show 0 ≤ x_59.toInt ∧ x_59.toInt ≤ 10 from by omega), hP.sub (ws' := [(mo, .inr (12, [.int v0, .ref m1, .ref m2, .ref m3, .ref m4, .ref m5, .int v6, .int v7, .int v8, .int v9, .int v10, .long v11, .int v12, .int v13, .int v14, .int v15, .ref m16, .ref m17, .ref m18, .ref m19, .ref m20, .ref m21, .ref m22, .ref m23, .int v24, .ref m25, .ref m26, .ref m27, .ref m28, .ref m29, .int v30, .ref m31, .ref m32, .ref m33, .int v34, .int v35, .int v36, .ref m37, .ref m38, .ref m39, .ref m40, .long v41])), (m17, .inl (k 0, 30, .inl f17)), (m18, .inl (k 0, 250, .inl f18)), (m19, .inl (k 0, 40, .inl f19)), (m25, .inl (k 0, 4, .inl f25)), (m26, .inl (k 0, 8, .inl f26))]) [4, 0, 5, 1, 2, 3] rfl, hD.sub (ws' := [(mo, .inr (12, [.int v0, .ref m1, .ref m2, .ref m3, .ref m4, .ref m5, .int v6, .int v7, .int v8, .int v9, .int v10, .long v11, .int v12, .int v13, .int v14, .int v15, .ref m16, .ref m17, .ref m18, .ref m19, .ref m20, .ref m21, .ref m22, .ref m23, .int v24, .ref m25, .ref m26, .ref m27, .ref m28, .ref m29, .int v30, .ref m31, .ref m32, .ref m33, .int v34, .int v35, .int v36, .ref m37, .ref m38, .ref m39, .ref m40, .long v41])), (m17, .inl (k 0, 30, .inl f17)), (m18, .inl (k 0, 250, .inl f18)), (m19, .inl (k 0, 40, .inl f19)), (m25, .inl (k 0, 4, .inl f25)), (m26, .inl (k 0, 8, .inl f26))]) [4, 0, 5, 1, 2, 3] (by decide) rfl, hS, lv_sub hl [2, 3, 0] rfl⟩
                · skip
                  have zh_58 : x_56.toInt = x_1.toInt := z_eq h_58
                  refine lv_iload_n hx hb dX12_laneOf_168 rfl (lv_at hl 3 rfl) ?_
                  have hP9 := hP.sub (ws' := [(mo, .inr (12, [.int v0, .ref m1, .ref m2, .ref m3, .ref m4, .ref m5, .int v6, .int v7, .int v8, .int v9, .int v10, .long v11, .int v12, .int v13, .int v14, .int v15, .ref m16, .ref m17, .ref m18, .ref m19, .ref m20, .ref m21, .ref m22, .ref m23, .int v24, .ref m25, .ref m26, .ref m27, .ref m28, .ref m29, .int v30, .ref m31, .ref m32, .ref m33, .int v34, .int v35, .int v36, .ref m37, .ref m38, .ref m39, .ref m40, .long v41])), (m17, .inl (k 0, 30, .inl f17)), (m18, .inl (k 0, 250, .inl f18)), (m19, .inl (k 0, 40, .inl f19)), (m25, .inl (k 0, 4, .inl f25)), (m26, .inl (k 0, 8, .inl f26))]) [4, 0, 5, 1, 2, 3] rfl
                  have hD9 := hD.sub (ws' := [(mo, .inr (12, [.int v0, .ref m1, .ref m2, .ref m3, .ref m4, .ref m5, .int v6, .int v7, .int v8, .int v9, .int v10, .long v11, .int v12, .int v13, .int v14, .int v15, .ref m16, .ref m17, .ref m18, .ref m19, .ref m20, .ref m21, .ref m22, .ref m23, .int v24, .ref m25, .ref m26, .ref m27, .ref m28, .ref m29, .int v30, .ref m31, .ref m32, .ref m33, .int v34, .int v35, .int v36, .ref m37, .ref m38, .ref m39, .ref m40, .long v41])), (m17, .inl (k 0, 30, .inl f17)), (m18, .inl (k 0, 250, .inl f18)), (m19, .inl (k 0, 40, .inl f19)), (m25, .inl (k 0, 4, .inl f25)), (m26, .inl (k 0, 8, .inl f26))]) [4, 0, 5, 1, 2, 3] (by decide) rfl
                  exact W.iret (v := L62l2) hx hb hr (fun tZ ht hW => ⟨⟨L62l2, (), rfl, (show (-1) ≤ L62l2.toInt ∧ L62l2.toInt ≤ 9 from by omega), by rw [ht]; exact hP9, va_K.moved hW.alike hK, hD9⟩, hS.F ht⟩) hS.2.2 dX12_laneOf_169
              · skip
                have zh_49 : x_17.toInt = p0.toInt := z_eq h_49
                refine lv_aload_n hx hb dX12_laneOf_124 rfl (lv_at hl 0 rfl) ?_
                refine va_get (D := D) (ci := 12) (v := .ref m18) (C := RX12) (T := TX12) (N := 42) hx hb hts iT_X12 hown hK hP 0 rfl rfl 18 (by decide) (hts _ tw_6_71) (fun _ h9 => h9) rfl dX12_laneOf_125 ?_
                refine lv_iconst (v := 5) hx hb dX12_laneOf_128 (by decide) ?_
                refine lv_iload_n hx hb dX12_laneOf_129 rfl (lv_at hl 2 rfl) ?_
                refine lv_imul hx hb dX12_laneOf_130 ?_
                refine lv_topi (fun x_60 ex_60 => ?_)
                obtain rfl : x_16 = x_60 := ex_16.trans ex_60.symm
                refine lv_iconst (v := 1) hx hb dX12_laneOf_131 (by decide) ?_
                refine lv_iadd hx hb dX12_laneOf_132 ?_
                refine lv_topi (fun x_61 ex_61 => ?_)
                obtain rfl : x_44 = x_61 := ex_44.trans ex_61.symm
                refine va_iald hx hb hK hP 2 0 rfl rfl (z_in (by omega) (by omega)) dX12_laneOf_133 ?_
                refine lv_topi (fun x_62 ex_62 => ?_)
                obtain rfl : x_45 = x_62 := ex_45.trans ex_62.symm
                refine lv_goto (tgt := 145) hx hb dX12_laneOf_134 (by decide) ?_
                refine lv_istore_n (lv' := [(3, .int x_45), (0, .ref mo), (1, .int p0), (2, .int L62l2)]) hx hb dX12_laneOf_145 rfl hl (by decide) rfl (fun ls hl => ?_)
                refine lv_aload_n hx hb dX12_laneOf_146 rfl (lv_at hl 1 rfl) ?_
                refine va_get (D := D) (ci := 12) (v := .ref m26) (C := RX12) (T := TX12) (N := 42) hx hb hts iT_X12 hown hK hP 0 rfl rfl 26 (by decide) (hts _ tw_6_79) (fun _ h9 => h9) rfl dX12_laneOf_147 ?_
                refine lv_iload_n hx hb dX12_laneOf_150 rfl (lv_at hl 0 rfl) ?_
                refine va_iald hx hb hK hP 5 0 rfl rfl (z_in (by omega) (by omega)) dX12_laneOf_151 ?_
                refine lv_topi (fun x_63 ex_63 => ?_)
                have zx_63r0 : 0 ≤ x_63.toInt ∧ x_63.toInt ≤ 100000 := by rw [ex_63]; exact PR.ld hp_f26_0 (by omega) (by omega) (by omega)
                refine lv_aload_n hx hb dX12_laneOf_152 rfl (lv_at hl 1 rfl) ?_
                refine lv_iload_n hx hb dX12_laneOf_153 rfl (lv_at hl 3 rfl) ?_
                refine lv_iconst (v := 0) hx hb dX12_laneOf_154 (by decide) ?_
                have hPc := hP.sub (ws' := [(mo, .inr (12, [.int v0, .ref m1, .ref m2, .ref m3, .ref m4, .ref m5, .int v6, .int v7, .int v8, .int v9, .int v10, .long v11, .int v12, .int v13, .int v14, .int v15, .ref m16, .ref m17, .ref m18, .ref m19, .ref m20, .ref m21, .ref m22, .ref m23, .int v24, .ref m25, .ref m26, .ref m27, .ref m28, .ref m29, .int v30, .ref m31, .ref m32, .ref m33, .int v34, .int v35, .int v36, .ref m37, .ref m38, .ref m39, .ref m40, .long v41])), (m18, .inl (k 0, 250, .inl f18))]) [0, 2] rfl
                have hDc := hD.sub (ws' := [(mo, .inr (12, [.int v0, .ref m1, .ref m2, .ref m3, .ref m4, .ref m5, .int v6, .int v7, .int v8, .int v9, .int v10, .long v11, .int v12, .int v13, .int v14, .int v15, .ref m16, .ref m17, .ref m18, .ref m19, .ref m20, .ref m21, .ref m22, .ref m23, .int v24, .ref m25, .ref m26, .ref m27, .ref m28, .ref m29, .int v30, .ref m31, .ref m32, .ref m33, .int v34, .int v35, .int v36, .ref m37, .ref m38, .ref m39, .ref m40, .long v41])), (m18, .inl (k 0, 250, .inl f18))]) [0, 2] (by decide) rfl
                have hFc := va_free (wc := [(mo, .inr (12, [.int v0, .ref m1, .ref m2, .ref m3, .ref m4, .ref m5, .int v6, .int v7, .int v8, .int v9, .int v10, .long v11, .int v12, .int v13, .int v14, .int v15, .ref m16, .ref m17, .ref m18, .ref m19, .ref m20, .ref m21, .ref m22, .ref m23, .int v24, .ref m25, .ref m26, .ref m27, .ref m28, .ref m29, .int v30, .ref m31, .ref m32, .ref m33, .int v34, .int v35, .int v36, .ref m37, .ref m38, .ref m39, .ref m40, .long v41])), (m18, .inl (k 0, 250, .inl f18))]) hD hS hA [0, 2] rfl
                refine va_calli (va_runV (C := RX12) (As := [.int L62l2, .int 0]) (rest := [.int x_63]) ⟨hx, hb, hml, hown, hts⟩ (c_X12_takes_ l D k mo L62l2 0 v0 m1 m2 m3 m4 m5 v6 v7 v8 v9 v10 v11 v12 v13 v14 v15 m16 m17 m18 m19 m20 m21 m22 m23 v24 m25 m26 m27 m28 m29 v30 m31 m32 m33 v34 v35 v36 m37 m38 m39 m40 v41 f18 H.size (show 0 ≤ L62l2.toInt ∧ L62l2.toInt ≤ 9 from by omega) (show 0 ≤ v6.toInt ∧ v6.toInt ≤ 1000 from by omega) (show 0 ≤ v24.toInt ∧ v24.toInt ≤ 1023 from by omega) hp_f18_0 hp_f18_1 hp_f18_2 hp_f18_3) (cwV 2 hts (gV tw_7_157 tw_7_159 tw_p_68 tw_1_13 tw_7_160) rfl rfl rfl hdV_X12_takes_ ⟨Nat.le_of_ble_eq_true rfl, Nat.le_of_ble_eq_true rfl⟩) (cz_V hK hPc hDc hN (ci := 12) (q0 := 0) rfl rfl [.int L62l2, .int 0]) rfl rfl hl.1 rfl (lv_room (Nat.le_of_ble_eq_true rfl)) dX12_laneOf_155 ⟨Nat.le_of_ble_eq_true rfl, Nat.le_of_ble_eq_true rfl⟩) hS (fun q _ h => hFc q h) hFc (fun r_64 uZ tZ H1 locs ht hvm hw hB hz1 hk1 hS => ?_)
                obtain ⟨hP1, hK1, hD1⟩ := hB
                rw [ht] at hP1
                obtain ⟨hP, hD⟩ := va_join (wr := [(m17, .inl (k 0, 30, .inl f17)), (m19, .inl (k 0, 40, .inl f19)), (m25, .inl (k 0, 4, .inl f25)), (m26, .inl (k 0, 8, .inl f26))]) (w1 := [(mo, .inr (12, [.int v0, .ref m1, .ref m2, .ref m3, .ref m4, .ref m5, .int v6, .int v7, .int v8, .int v9, .int v10, .long v11, .int v12, .int v13, .int v14, .int v15, .ref m16, .ref m17, .ref m18, .ref m19, .ref m20, .ref m21, .ref m22, .ref m23, .int v24, .ref m25, .ref m26, .ref m27, .ref m28, .ref m29, .int v30, .ref m31, .ref m32, .ref m33, .int v34, .int v35, .int v36, .ref m37, .ref m38, .ref m39, .ref m40, .long v41])), (m18, .inl (k 0, 250, .inl f18))]) hP hD [0, 2] [1, 3, 4, 5] rfl rfl (by decide) (by decide) hk1 hFc hP1 hD1
                clear hK1 hP1 hD1 hPc hDc hFc
                clear hk1 hz1 ht hvm
                have hP : va_P D vwCl [(m17, .inl (k 0, 30, .inl f17)), (m19, .inl (k 0, 40, .inl f19)), (m25, .inl (k 0, 4, .inl f25)), (m26, .inl (k 0, 8, .inl f26)), (mo, .inr (12, [.int v0, .ref m1, .ref m2, .ref m3, .ref m4, .ref m5, .int v6, .int v7, .int v8, .int v9, .int v10, .long v11, .int v12, .int v13, .int v14, .int v15, .ref m16, .ref m17, .ref m18, .ref m19, .ref m20, .ref m21, .ref m22, .ref m23, .int v24, .ref m25, .ref m26, .ref m27, .ref m28, .ref m29, .int v30, .ref m31, .ref m32, .ref m33, .int v34, .int v35, .int v36, .ref m37, .ref m38, .ref m39, .ref m40, .long v41])), (m18, .inl (k 0, 250, .inl f18))] H1 := hP
                have hD : va_D A [(m17, .inl (k 0, 30, .inl f17)), (m19, .inl (k 0, 40, .inl f19)), (m25, .inl (k 0, 4, .inl f25)), (m26, .inl (k 0, 8, .inl f26)), (mo, .inr (12, [.int v0, .ref m1, .ref m2, .ref m3, .ref m4, .ref m5, .int v6, .int v7, .int v8, .int v9, .int v10, .long v11, .int v12, .int v13, .int v14, .int v15, .ref m16, .ref m17, .ref m18, .ref m19, .ref m20, .ref m21, .ref m22, .ref m23, .int v24, .ref m25, .ref m26, .ref m27, .ref m28, .ref m29, .int v30, .ref m31, .ref m32, .ref m33, .int v34, .int v35, .int v36, .ref m37, .ref m38, .ref m39, .ref m40, .long v41])), (m18, .inl (k 0, 250, .inl f18))] := hD
                generalize H1 = H at hP hS ⊢
                have hw_65 : (1 ≤ r_64.toInt ∧ r_64.toInt ≤ 70) := hw
                have hw_66 := hw_65
                clear hw
                refine lv_iadd hx hb dX12_laneOf_158 ?_
                refine lv_topi (fun x_67 ex_67 => ?_)
                have zx_67 : x_67.toInt = x_63.toInt + r_64.toInt := by rw [ex_67]; exact z_add rfl rfl (by omega) (by omega)
                refine lv_aload_n hx hb dX12_laneOf_159 rfl (lv_at hl 1 rfl) ?_
                refine va_get (D := D) (ci := 12) (v := .ref m26) (C := RX12) (T := TX12) (N := 42) hx hb hts iT_X12 hown hK hP 4 rfl rfl 26 (by decide) (hts _ tw_6_79) (fun _ h9 => h9) rfl dX12_laneOf_160 ?_
                refine lv_iload_n hx hb dX12_laneOf_163 rfl (lv_at hl 2 rfl) ?_
                refine va_iald hx hb hK hP 3 0 rfl rfl (z_in (by omega) (by omega)) dX12_laneOf_164 ?_
                refine lv_topi (fun x_68 ex_68 => ?_)
                obtain rfl : x_1 = x_68 := ex_1.trans ex_68.symm
                refine lv_icmp_ne (tgt := 170) hx hb dX12_laneOf_165 (by decide) (fun h_69 => ?_) (fun h_69 => ?_)
                · skip
                  have zh_69 : ¬ x_67.toInt = x_1.toInt := z_ne h_69
                  obtain ⟨x_70, ex_70⟩ : ∃ y : Int32, y = L62l2 + 1 := ⟨_, rfl⟩
                  have zx_70 : x_70.toInt = L62l2.toInt + 1 := by rw [ex_70]; exact z_add rfl rfl (by omega) (by omega)
                  refine lv_iinc (v := x_70) (lv' := [(2, .int x_70), (3, .int x_45), (0, .ref mo), (1, .int p0)]) hx hb dX12_laneOf_170 hl (k := 3) rfl (by rw [ex_70]; rfl) (by decide) rfl (fun ls hl => ?_)
                  refine lv_goto (tgt := 62) hx hb dX12_laneOf_173 (by decide) ?_
                  exact ih_7 _ _ _ _ (by omega) ⟨x_70, rfl, (show 0 ≤ x_70.toInt ∧ x_70.toInt ≤ 10 from by omega), hP.sub (ws' := [(mo, .inr (12, [.int v0, .ref m1, .ref m2, .ref m3, .ref m4, .ref m5, .int v6, .int v7, .int v8, .int v9, .int v10, .long v11, .int v12, .int v13, .int v14, .int v15, .ref m16, .ref m17, .ref m18, .ref m19, .ref m20, .ref m21, .ref m22, .ref m23, .int v24, .ref m25, .ref m26, .ref m27, .ref m28, .ref m29, .int v30, .ref m31, .ref m32, .ref m33, .int v34, .int v35, .int v36, .ref m37, .ref m38, .ref m39, .ref m40, .long v41])), (m17, .inl (k 0, 30, .inl f17)), (m18, .inl (k 0, 250, .inl f18)), (m19, .inl (k 0, 40, .inl f19)), (m25, .inl (k 0, 4, .inl f25)), (m26, .inl (k 0, 8, .inl f26))]) [4, 0, 5, 1, 2, 3] rfl, hD.sub (ws' := [(mo, .inr (12, [.int v0, .ref m1, .ref m2, .ref m3, .ref m4, .ref m5, .int v6, .int v7, .int v8, .int v9, .int v10, .long v11, .int v12, .int v13, .int v14, .int v15, .ref m16, .ref m17, .ref m18, .ref m19, .ref m20, .ref m21, .ref m22, .ref m23, .int v24, .ref m25, .ref m26, .ref m27, .ref m28, .ref m29, .int v30, .ref m31, .ref m32, .ref m33, .int v34, .int v35, .int v36, .ref m37, .ref m38, .ref m39, .ref m40, .long v41])), (m17, .inl (k 0, 30, .inl f17)), (m18, .inl (k 0, 250, .inl f18)), (m19, .inl (k 0, 40, .inl f19)), (m25, .inl (k 0, 4, .inl f25)), (m26, .inl (k 0, 8, .inl f26))]) [4, 0, 5, 1, 2, 3] (by decide) rfl, hS, lv_sub hl [2, 3, 0] rfl⟩
                · skip
                  have zh_69 : x_67.toInt = x_1.toInt := z_eq h_69
                  refine lv_iload_n hx hb dX12_laneOf_168 rfl (lv_at hl 3 rfl) ?_
                  have hP9 := hP.sub (ws' := [(mo, .inr (12, [.int v0, .ref m1, .ref m2, .ref m3, .ref m4, .ref m5, .int v6, .int v7, .int v8, .int v9, .int v10, .long v11, .int v12, .int v13, .int v14, .int v15, .ref m16, .ref m17, .ref m18, .ref m19, .ref m20, .ref m21, .ref m22, .ref m23, .int v24, .ref m25, .ref m26, .ref m27, .ref m28, .ref m29, .int v30, .ref m31, .ref m32, .ref m33, .int v34, .int v35, .int v36, .ref m37, .ref m38, .ref m39, .ref m40, .long v41])), (m17, .inl (k 0, 30, .inl f17)), (m18, .inl (k 0, 250, .inl f18)), (m19, .inl (k 0, 40, .inl f19)), (m25, .inl (k 0, 4, .inl f25)), (m26, .inl (k 0, 8, .inl f26))]) [4, 0, 5, 1, 2, 3] rfl
                  have hD9 := hD.sub (ws' := [(mo, .inr (12, [.int v0, .ref m1, .ref m2, .ref m3, .ref m4, .ref m5, .int v6, .int v7, .int v8, .int v9, .int v10, .long v11, .int v12, .int v13, .int v14, .int v15, .ref m16, .ref m17, .ref m18, .ref m19, .ref m20, .ref m21, .ref m22, .ref m23, .int v24, .ref m25, .ref m26, .ref m27, .ref m28, .ref m29, .int v30, .ref m31, .ref m32, .ref m33, .int v34, .int v35, .int v36, .ref m37, .ref m38, .ref m39, .ref m40, .long v41])), (m17, .inl (k 0, 30, .inl f17)), (m18, .inl (k 0, 250, .inl f18)), (m19, .inl (k 0, 40, .inl f19)), (m25, .inl (k 0, 4, .inl f25)), (m26, .inl (k 0, 8, .inl f26))]) [4, 0, 5, 1, 2, 3] (by decide) rfl
                  exact W.iret (v := L62l2) hx hb hr (fun tZ ht hW => ⟨⟨L62l2, (), rfl, (show (-1) ≤ L62l2.toInt ∧ L62l2.toInt ≤ 9 from by omega), by rw [ht]; exact hP9, va_K.moved hW.alike hK, hD9⟩, hS.F ht⟩) hS.2.2 dX12_laneOf_169
            · skip
              have zh_46 : ¬ x_45.toInt = p0.toInt := z_ne h_46
              refine lv_goto (tgt := 170) hx hb dX12_laneOf_109 (by decide) ?_
              obtain ⟨x_71, ex_71⟩ : ∃ y : Int32, y = L62l2 + 1 := ⟨_, rfl⟩
              have zx_71 : x_71.toInt = L62l2.toInt + 1 := by rw [ex_71]; exact z_add rfl rfl (by omega) (by omega)
              refine lv_iinc (v := x_71) (lv' := [(2, .int x_71), (0, .ref mo), (1, .int p0)]) hx hb dX12_laneOf_170 hl (k := 2) rfl (by rw [ex_71]; rfl) (by decide) rfl (fun ls hl => ?_)
              refine lv_goto (tgt := 62) hx hb dX12_laneOf_173 (by decide) ?_
              exact ih_7 _ _ _ _ (by omega) ⟨x_71, rfl, (show 0 ≤ x_71.toInt ∧ x_71.toInt ≤ 10 from by omega), hP.sub (ws' := [(mo, .inr (12, [.int v0, .ref m1, .ref m2, .ref m3, .ref m4, .ref m5, .int v6, .int v7, .int v8, .int v9, .int v10, .long v11, .int v12, .int v13, .int v14, .int v15, .ref m16, .ref m17, .ref m18, .ref m19, .ref m20, .ref m21, .ref m22, .ref m23, .int v24, .ref m25, .ref m26, .ref m27, .ref m28, .ref m29, .int v30, .ref m31, .ref m32, .ref m33, .int v34, .int v35, .int v36, .ref m37, .ref m38, .ref m39, .ref m40, .long v41])), (m17, .inl (k 0, 30, .inl f17)), (m18, .inl (k 0, 250, .inl f18)), (m19, .inl (k 0, 40, .inl f19)), (m25, .inl (k 0, 4, .inl f25)), (m26, .inl (k 0, 8, .inl f26))]) [0, 1, 2, 3, 4, 5] rfl, hD.sub (ws' := [(mo, .inr (12, [.int v0, .ref m1, .ref m2, .ref m3, .ref m4, .ref m5, .int v6, .int v7, .int v8, .int v9, .int v10, .long v11, .int v12, .int v13, .int v14, .int v15, .ref m16, .ref m17, .ref m18, .ref m19, .ref m20, .ref m21, .ref m22, .ref m23, .int v24, .ref m25, .ref m26, .ref m27, .ref m28, .ref m29, .int v30, .ref m31, .ref m32, .ref m33, .int v34, .int v35, .int v36, .ref m37, .ref m38, .ref m39, .ref m40, .long v41])), (m17, .inl (k 0, 30, .inl f17)), (m18, .inl (k 0, 250, .inl f18)), (m19, .inl (k 0, 40, .inl f19)), (m25, .inl (k 0, 4, .inl f25)), (m26, .inl (k 0, 8, .inl f26))]) [0, 1, 2, 3, 4, 5] (by decide) rfl, hS, lv_sub hl [1, 2, 0] rfl⟩
    · skip
      have zh_6 : L15l2.toInt < x_5.toInt := z_nle h_6
      refine lv_aload_n hx hb dX12_laneOf_25 rfl (lv_at hl 0 rfl) ?_
      refine va_get (D := D) (ci := 12) (v := .ref m19) (C := RX12) (T := TX12) (N := 42) hx hb hts iT_X12 hown hK hP 0 rfl rfl 19 (by decide) (hts _ tw_6_72) (fun _ h9 => h9) rfl dX12_laneOf_26 ?_
      refine lv_iconst (v := 2) hx hb dX12_laneOf_29 (by decide) ?_
      refine lv_iload_n hx hb dX12_laneOf_30 rfl (lv_at hl 2 rfl) ?_
      refine lv_imul hx hb dX12_laneOf_31 ?_
      refine lv_topi (fun x_72 ex_72 => ?_)
      have zx_72 : x_72.toInt = 2 * L15l2.toInt := by rw [ex_72]; exact z_mul rfl rfl (by omega) (by omega)
      refine va_iald hx hb hK hP 3 0 rfl rfl (z_in (by omega) (by omega)) dX12_laneOf_32 ?_
      refine lv_topi (fun x_73 ex_73 => ?_)
      have zx_73r0 : 0 ≤ x_73.toInt ∧ x_73.toInt ≤ 7 := by rw [ex_73]; exact PR.ld hp_f19_0 (by omega) (by omega) (by omega)
      refine lv_iload_n hx hb dX12_laneOf_33 rfl (lv_at hl 1 rfl) ?_
      refine lv_icmp_ne (tgt := 54) hx hb dX12_laneOf_34 (by decide) (fun h_74 => ?_) (fun h_74 => ?_)
      · skip
        have zh_74 : ¬ x_73.toInt = p0.toInt := z_ne h_74
        obtain ⟨x_75, ex_75⟩ : ∃ y : Int32, y = L15l2 + 1 := ⟨_, rfl⟩
        have zx_75 : x_75.toInt = L15l2.toInt + 1 := by rw [ex_75]; exact z_add rfl rfl (by omega) (by omega)
        refine lv_iinc (v := x_75) (lv' := [(2, .int x_75), (0, .ref mo), (1, .int p0)]) hx hb dX12_laneOf_54 hl (k := 2) rfl (by rw [ex_75]; rfl) (by decide) rfl (fun ls hl => ?_)
        refine lv_goto (tgt := 15) hx hb dX12_laneOf_57 (by decide) ?_
        exact ih_3 _ _ _ _ (by omega) ⟨x_75, rfl, (show 0 ≤ x_75.toInt ∧ x_75.toInt ≤ 4 from by omega), hP.sub (ws' := [(mo, .inr (12, [.int v0, .ref m1, .ref m2, .ref m3, .ref m4, .ref m5, .int v6, .int v7, .int v8, .int v9, .int v10, .long v11, .int v12, .int v13, .int v14, .int v15, .ref m16, .ref m17, .ref m18, .ref m19, .ref m20, .ref m21, .ref m22, .ref m23, .int v24, .ref m25, .ref m26, .ref m27, .ref m28, .ref m29, .int v30, .ref m31, .ref m32, .ref m33, .int v34, .int v35, .int v36, .ref m37, .ref m38, .ref m39, .ref m40, .long v41])), (m17, .inl (k 0, 30, .inl f17)), (m18, .inl (k 0, 250, .inl f18)), (m19, .inl (k 0, 40, .inl f19)), (m25, .inl (k 0, 4, .inl f25)), (m26, .inl (k 0, 8, .inl f26))]) [0, 1, 2, 3, 4, 5] rfl, hD.sub (ws' := [(mo, .inr (12, [.int v0, .ref m1, .ref m2, .ref m3, .ref m4, .ref m5, .int v6, .int v7, .int v8, .int v9, .int v10, .long v11, .int v12, .int v13, .int v14, .int v15, .ref m16, .ref m17, .ref m18, .ref m19, .ref m20, .ref m21, .ref m22, .ref m23, .int v24, .ref m25, .ref m26, .ref m27, .ref m28, .ref m29, .int v30, .ref m31, .ref m32, .ref m33, .int v34, .int v35, .int v36, .ref m37, .ref m38, .ref m39, .ref m40, .long v41])), (m17, .inl (k 0, 30, .inl f17)), (m18, .inl (k 0, 250, .inl f18)), (m19, .inl (k 0, 40, .inl f19)), (m25, .inl (k 0, 4, .inl f25)), (m26, .inl (k 0, 8, .inl f26))]) [0, 1, 2, 3, 4, 5] (by decide) rfl, hS, lv_sub hl [1, 2, 0] rfl⟩
      · skip
        have zh_74 : x_73.toInt = p0.toInt := z_eq h_74
        refine lv_aload_n hx hb dX12_laneOf_37 rfl (lv_at hl 0 rfl) ?_
        refine va_get (D := D) (ci := 12) (v := .ref m25) (C := RX12) (T := TX12) (N := 42) hx hb hts iT_X12 hown hK hP 0 rfl rfl 25 (by decide) (hts _ tw_6_78) (fun _ h9 => h9) rfl dX12_laneOf_38 ?_
        refine lv_iload_n hx hb dX12_laneOf_41 rfl (lv_at hl 2 rfl) ?_
        refine va_iald hx hb hK hP 4 0 rfl rfl (z_in (by omega) (by omega)) dX12_laneOf_42 ?_
        refine lv_topi (fun x_76 ex_76 => ?_)
        have zx_76r0 : 0 ≤ x_76.toInt ∧ x_76.toInt ≤ 129 := by rw [ex_76]; exact PR.ld hp_f25_0 (by omega) (by omega) (by omega)
        refine lv_aload_n hx hb dX12_laneOf_43 rfl (lv_at hl 0 rfl) ?_
        refine va_get (D := D) (ci := 12) (v := .ref m26) (C := RX12) (T := TX12) (N := 42) hx hb hts iT_X12 hown hK hP 0 rfl rfl 26 (by decide) (hts _ tw_6_79) (fun _ h9 => h9) rfl dX12_laneOf_44 ?_
        refine lv_iload_n hx hb dX12_laneOf_47 rfl (lv_at hl 1 rfl) ?_
        refine va_iald hx hb hK hP 5 0 rfl rfl (z_in (by omega) (by omega)) dX12_laneOf_48 ?_
        refine lv_topi (fun x_77 ex_77 => ?_)
        obtain rfl : x_1 = x_77 := ex_1.trans ex_77.symm
        refine lv_icmp_ne (tgt := 54) hx hb dX12_laneOf_49 (by decide) (fun h_78 => ?_) (fun h_78 => ?_)
        · skip
          have zh_78 : ¬ x_76.toInt = x_1.toInt := z_ne h_78
          obtain ⟨x_79, ex_79⟩ : ∃ y : Int32, y = L15l2 + 1 := ⟨_, rfl⟩
          have zx_79 : x_79.toInt = L15l2.toInt + 1 := by rw [ex_79]; exact z_add rfl rfl (by omega) (by omega)
          refine lv_iinc (v := x_79) (lv' := [(2, .int x_79), (0, .ref mo), (1, .int p0)]) hx hb dX12_laneOf_54 hl (k := 2) rfl (by rw [ex_79]; rfl) (by decide) rfl (fun ls hl => ?_)
          refine lv_goto (tgt := 15) hx hb dX12_laneOf_57 (by decide) ?_
          exact ih_3 _ _ _ _ (by omega) ⟨x_79, rfl, (show 0 ≤ x_79.toInt ∧ x_79.toInt ≤ 4 from by omega), hP.sub (ws' := [(mo, .inr (12, [.int v0, .ref m1, .ref m2, .ref m3, .ref m4, .ref m5, .int v6, .int v7, .int v8, .int v9, .int v10, .long v11, .int v12, .int v13, .int v14, .int v15, .ref m16, .ref m17, .ref m18, .ref m19, .ref m20, .ref m21, .ref m22, .ref m23, .int v24, .ref m25, .ref m26, .ref m27, .ref m28, .ref m29, .int v30, .ref m31, .ref m32, .ref m33, .int v34, .int v35, .int v36, .ref m37, .ref m38, .ref m39, .ref m40, .long v41])), (m17, .inl (k 0, 30, .inl f17)), (m18, .inl (k 0, 250, .inl f18)), (m19, .inl (k 0, 40, .inl f19)), (m25, .inl (k 0, 4, .inl f25)), (m26, .inl (k 0, 8, .inl f26))]) [0, 1, 2, 3, 4, 5] rfl, hD.sub (ws' := [(mo, .inr (12, [.int v0, .ref m1, .ref m2, .ref m3, .ref m4, .ref m5, .int v6, .int v7, .int v8, .int v9, .int v10, .long v11, .int v12, .int v13, .int v14, .int v15, .ref m16, .ref m17, .ref m18, .ref m19, .ref m20, .ref m21, .ref m22, .ref m23, .int v24, .ref m25, .ref m26, .ref m27, .ref m28, .ref m29, .int v30, .ref m31, .ref m32, .ref m33, .int v34, .int v35, .int v36, .ref m37, .ref m38, .ref m39, .ref m40, .long v41])), (m17, .inl (k 0, 30, .inl f17)), (m18, .inl (k 0, 250, .inl f18)), (m19, .inl (k 0, 40, .inl f19)), (m25, .inl (k 0, 4, .inl f25)), (m26, .inl (k 0, 8, .inl f26))]) [0, 1, 2, 3, 4, 5] (by decide) rfl, hS, lv_sub hl [1, 2, 0] rfl⟩
        · skip
          have zh_78 : x_76.toInt = x_1.toInt := z_eq h_78
          refine lv_iconst (v := (-1)) hx hb dX12_laneOf_52 (by decide) ?_
          have hP9 := hP.sub (ws' := [(mo, .inr (12, [.int v0, .ref m1, .ref m2, .ref m3, .ref m4, .ref m5, .int v6, .int v7, .int v8, .int v9, .int v10, .long v11, .int v12, .int v13, .int v14, .int v15, .ref m16, .ref m17, .ref m18, .ref m19, .ref m20, .ref m21, .ref m22, .ref m23, .int v24, .ref m25, .ref m26, .ref m27, .ref m28, .ref m29, .int v30, .ref m31, .ref m32, .ref m33, .int v34, .int v35, .int v36, .ref m37, .ref m38, .ref m39, .ref m40, .long v41])), (m17, .inl (k 0, 30, .inl f17)), (m18, .inl (k 0, 250, .inl f18)), (m19, .inl (k 0, 40, .inl f19)), (m25, .inl (k 0, 4, .inl f25)), (m26, .inl (k 0, 8, .inl f26))]) [0, 1, 2, 3, 4, 5] rfl
          have hD9 := hD.sub (ws' := [(mo, .inr (12, [.int v0, .ref m1, .ref m2, .ref m3, .ref m4, .ref m5, .int v6, .int v7, .int v8, .int v9, .int v10, .long v11, .int v12, .int v13, .int v14, .int v15, .ref m16, .ref m17, .ref m18, .ref m19, .ref m20, .ref m21, .ref m22, .ref m23, .int v24, .ref m25, .ref m26, .ref m27, .ref m28, .ref m29, .int v30, .ref m31, .ref m32, .ref m33, .int v34, .int v35, .int v36, .ref m37, .ref m38, .ref m39, .ref m40, .long v41])), (m17, .inl (k 0, 30, .inl f17)), (m18, .inl (k 0, 250, .inl f18)), (m19, .inl (k 0, 40, .inl f19)), (m25, .inl (k 0, 4, .inl f25)), (m26, .inl (k 0, 8, .inl f26))]) [0, 1, 2, 3, 4, 5] (by decide) rfl
          exact W.iret (v := (-1)) hx hb hr (fun tZ ht hW => ⟨⟨(-1), (), rfl, (show (-1) ≤ (-1) ∧ (-1) ≤ 9 from by omega), by rw [ht]; exact hP9, va_K.moved hW.alike hK, hD9⟩, hS.F ht⟩) hS.2.2 dX12_laneOf_53
  · skip
    have zh_2 : 100000 ≤ x_1.toInt := z_nlt h_2
    refine lv_iconst (v := (-1)) hx hb dX12_laneOf_11 (by decide) ?_
    have hP9 := hP.sub (ws' := [(mo, .inr (12, [.int v0, .ref m1, .ref m2, .ref m3, .ref m4, .ref m5, .int v6, .int v7, .int v8, .int v9, .int v10, .long v11, .int v12, .int v13, .int v14, .int v15, .ref m16, .ref m17, .ref m18, .ref m19, .ref m20, .ref m21, .ref m22, .ref m23, .int v24, .ref m25, .ref m26, .ref m27, .ref m28, .ref m29, .int v30, .ref m31, .ref m32, .ref m33, .int v34, .int v35, .int v36, .ref m37, .ref m38, .ref m39, .ref m40, .long v41])), (m17, .inl (k 0, 30, .inl f17)), (m18, .inl (k 0, 250, .inl f18)), (m19, .inl (k 0, 40, .inl f19)), (m25, .inl (k 0, 4, .inl f25)), (m26, .inl (k 0, 8, .inl f26))]) [0, 1, 2, 3, 4, 5] rfl
    have hD9 := hD.sub (ws' := [(mo, .inr (12, [.int v0, .ref m1, .ref m2, .ref m3, .ref m4, .ref m5, .int v6, .int v7, .int v8, .int v9, .int v10, .long v11, .int v12, .int v13, .int v14, .int v15, .ref m16, .ref m17, .ref m18, .ref m19, .ref m20, .ref m21, .ref m22, .ref m23, .int v24, .ref m25, .ref m26, .ref m27, .ref m28, .ref m29, .int v30, .ref m31, .ref m32, .ref m33, .int v34, .int v35, .int v36, .ref m37, .ref m38, .ref m39, .ref m40, .long v41])), (m17, .inl (k 0, 30, .inl f17)), (m18, .inl (k 0, 250, .inl f18)), (m19, .inl (k 0, 40, .inl f19)), (m25, .inl (k 0, 4, .inl f25)), (m26, .inl (k 0, 8, .inl f26))]) [0, 1, 2, 3, 4, 5] (by decide) rfl
    exact W.iret (v := (-1)) hx hb hr (fun tZ ht hW => ⟨⟨(-1), (), rfl, (show (-1) ≤ (-1) ∧ (-1) ≤ 9 from by omega), by rw [ht]; exact hP9, va_K.moved hW.alike hK, hD9⟩, hS.F ht⟩) hS.2.2 dX12_laneOf_12
set_option maxHeartbeats 4000000 in
set_option maxRecDepth 100000 in
theorem c_X12_fullOf (l : Launch) (D : va_G) (k : Nat → ClassId) (mo : Nat) (v0 : Int32) (m1 : Nat) (m2 : Nat) (m3 : Nat) (m4 : Nat) (m5 : Nat) (v6 : Int32) (v7 : Int32) (v8 : Int32) (v9 : Int32) (v10 : Int32) (v11 : Int64) (v12 : Int32) (v13 : Int32) (v14 : Int32) (v15 : Int32) (m16 : Nat) (m17 : Nat) (m18 : Nat) (m19 : Nat) (m20 : Nat) (m21 : Nat) (m22 : Nat) (m23 : Nat) (v24 : Int32) (m25 : Nat) (m26 : Nat) (m27 : Nat) (m28 : Nat) (m29 : Nat) (v30 : Int32) (m31 : Nat) (m32 : Nat) (m33 : Nat) (v34 : Int32) (v35 : Int32) (v36 : Int32) (m37 : Nat) (m38 : Nat) (m39 : Nat) (m40 : Nat) (v41 : Int64) (f17 : Nat → Int32) (f26 : Nat → Int32) (sz : Nat) (h_v6 : 0 ≤ v6.toInt ∧ v6.toInt ≤ 1000) (h_v24 : 0 ≤ v24.toInt ∧ v24.toInt ≤ 1023) (hp_f17_0 : PR 30 6 0 0 8 f17) (hp_f17_1 : PR 30 6 1 0 10 f17) (hp_f17_2 : PR 30 6 2 0 4 f17) (hp_f17_3 : PR 30 6 3 0 6 f17) (hp_f17_4 : PR 30 6 4 0 2 f17) (hp_f17_5 : PR 30 6 5 0 40 f17) (hp_f26_0 : PR 8 1 0 0 100000 f26) : Met l yX12_fullOf (ww yX12_fullOf cX12_fullOf 3 (some .int)) ({ frames := 0, cells := 0, slots := 0, locals := 0 }) (Pre0 D k [(mo, .inr (12, [.int v0, .ref m1, .ref m2, .ref m3, .ref m4, .ref m5, .int v6, .int v7, .int v8, .int v9, .int v10, .long v11, .int v12, .int v13, .int v14, .int v15, .ref m16, .ref m17, .ref m18, .ref m19, .ref m20, .ref m21, .ref m22, .ref m23, .int v24, .ref m25, .ref m26, .ref m27, .ref m28, .ref m29, .int v30, .ref m31, .ref m32, .ref m33, .int v34, .int v35, .int v36, .ref m37, .ref m38, .ref m39, .ref m40, .long v41])), (m17, .inl (k 0, 30, .inl f17)), (m26, .inl (k 0, 8, .inl f26))] sz [.ref mo]) (va_Qi (fun (r : Int32) (_ : Unit) => ((-1) ≤ r.toInt ∧ r.toInt ≤ 99999)) (fun (_ : Unit) tZ => Bw D k (va_A [(mo, .inr (12, [.int v0, .ref m1, .ref m2, .ref m3, .ref m4, .ref m5, .int v6, .int v7, .int v8, .int v9, .int v10, .long v11, .int v12, .int v13, .int v14, .int v15, .ref m16, .ref m17, .ref m18, .ref m19, .ref m20, .ref m21, .ref m22, .ref m23, .int v24, .ref m25, .ref m26, .ref m27, .ref m28, .ref m29, .int v30, .ref m31, .ref m32, .ref m33, .int v34, .int v35, .int v36, .ref m37, .ref m38, .ref m39, .ref m40, .long v41])), (m17, .inl (k 0, 30, .inl f17)), (m26, .inl (k 0, 8, .inl f26))] sz) [(mo, .inr (12, [.int v0, .ref m1, .ref m2, .ref m3, .ref m4, .ref m5, .int v6, .int v7, .int v8, .int v9, .int v10, .long v11, .int v12, .int v13, .int v14, .int v15, .ref m16, .ref m17, .ref m18, .ref m19, .ref m20, .ref m21, .ref m22, .ref m23, .int v24, .ref m25, .ref m26, .ref m27, .ref m28, .ref m29, .int v30, .ref m31, .ref m32, .ref m33, .int v34, .int v35, .int v36, .ref m37, .ref m38, .ref m39, .ref m40, .long v41])), (m17, .inl (k 0, 30, .inl f17)), (m26, .inl (k 0, 8, .inl f26))] tZ) (va_A [(mo, .inr (12, [.int v0, .ref m1, .ref m2, .ref m3, .ref m4, .ref m5, .int v6, .int v7, .int v8, .int v9, .int v10, .long v11, .int v12, .int v13, .int v14, .int v15, .ref m16, .ref m17, .ref m18, .ref m19, .ref m20, .ref m21, .ref m22, .ref m23, .int v24, .ref m25, .ref m26, .ref m27, .ref m28, .ref m29, .int v30, .ref m31, .ref m32, .ref m33, .int v34, .int v35, .int v36, .ref m37, .ref m38, .ref m39, .ref m40, .long v41])), (m17, .inl (k 0, 30, .inl f17)), (m26, .inl (k 0, 8, .inl f26))] sz)) 0 0 (va_A [(mo, .inr (12, [.int v0, .ref m1, .ref m2, .ref m3, .ref m4, .ref m5, .int v6, .int v7, .int v8, .int v9, .int v10, .long v11, .int v12, .int v13, .int v14, .int v15, .ref m16, .ref m17, .ref m18, .ref m19, .ref m20, .ref m21, .ref m22, .ref m23, .int v24, .ref m25, .ref m26, .ref m27, .ref m28, .ref m29, .int v30, .ref m31, .ref m32, .ref m33, .int v34, .int v35, .int v36, .ref m37, .ref m38, .ref m39, .ref m40, .long v41])), (m17, .inl (k 0, 30, .inl f17)), (m26, .inl (k 0, 8, .inl f26))] sz) := by
  refine Met.ofW (cc := cX12_fullOf) (maxL := 3) (ret := (some .int)) (by decide +kernel) rfl ?_
  intro p e s m args below meth c s₁ B hml hv
  obtain ⟨rfl, hsz, hP, hK, hD0, hN⟩ := hv
  have hx := B.exec
  have hb := B.bytes
  have hr := B.returns
  have hts : ∀ w ∈ TT, w.before _ s = true := fun w h => atoms_spec (ws := ww yX12_fullOf cX12_fullOf 3 (some .int)) B.pre w (List.mem_cons_of_mem _ h)
  have hown : s.vm.findClass RX12 = some m.cls := findClass_of_methodNamed B.named
  have hlocks := B.notSynchronized
  subst hsz
  have hD := hD0.self (sz := s.heap.size)
  generalize hAe : va_A [(mo, .inr (12, [.int v0, .ref m1, .ref m2, .ref m3, .ref m4, .ref m5, .int v6, .int v7, .int v8, .int v9, .int v10, .long v11, .int v12, .int v13, .int v14, .int v15, .ref m16, .ref m17, .ref m18, .ref m19, .ref m20, .ref m21, .ref m22, .ref m23, .int v24, .ref m25, .ref m26, .ref m27, .ref m28, .ref m29, .int v30, .ref m31, .ref m32, .ref m33, .int v34, .int v35, .int v36, .ref m37, .ref m38, .ref m39, .ref m40, .long v41])), (m17, .inl (k 0, 30, .inl f17)), (m26, .inl (k 0, 8, .inl f26))] s.heap.size = A at hD ⊢
  have hA : ∀ q : Nat, s.heap.size ≤ q → A q := fun q h => by rw [← hAe]; exact Or.inr h
  have hS : va_S A s.heap s.heap [] := va_S.rf
  have hl := lv_entry ([.ref mo]) (n := 3) (Nat.le_of_ble_eq_true rfl)
  rw [lg_entry_eq]
  generalize (lg_sl ([.ref mo]) ++ List.replicate (3 - (lg_sl ([.ref mo])).length) Slot.unset).toArray = ls at hl ⊢
  have hl : lv_has ls 3 [(0, .ref mo)] := hl
  refine lv_iconst (v := 0) hx hb dX12_fullOf_0 (by decide) ?_
  refine lv_istore_n (lv' := [(1, .int 0), (0, .ref mo)]) hx hb dX12_fullOf_1 rfl hl (by decide) rfl (fun ls hl => ?_)
  refine lv_iconst (v := 0) hx hb dX12_fullOf_2 (by decide) ?_
  refine lv_istore_n (lv' := [(2, .int 0), (1, .int 0), (0, .ref mo)]) hx hb dX12_fullOf_3 rfl hl (by decide) rfl (fun ls hl => ?_)
  refine loop_r (Wg := fun H locs ls => W p l e _ s m _ below meth c H locs _ _ _ (F0 m 4 ls [])) (fun n9 H locs ls => ∃ (L4l1 : Int32) (L4l2 : Int32), n9 = (8 - L4l2.toInt).toNat ∧ (0 ≤ L4l1.toInt ∧ L4l1.toInt ≤ 100000) ∧ (0 ≤ L4l2.toInt ∧ L4l2.toInt ≤ 8) ∧ va_P D vwCl [(mo, .inr (12, [.int v0, .ref m1, .ref m2, .ref m3, .ref m4, .ref m5, .int v6, .int v7, .int v8, .int v9, .int v10, .long v11, .int v12, .int v13, .int v14, .int v15, .ref m16, .ref m17, .ref m18, .ref m19, .ref m20, .ref m21, .ref m22, .ref m23, .int v24, .ref m25, .ref m26, .ref m27, .ref m28, .ref m29, .int v30, .ref m31, .ref m32, .ref m33, .int v34, .int v35, .int v36, .ref m37, .ref m38, .ref m39, .ref m40, .long v41])), (m17, .inl (k 0, 30, .inl f17)), (m26, .inl (k 0, 8, .inl f26))] H ∧ va_D A [(mo, .inr (12, [.int v0, .ref m1, .ref m2, .ref m3, .ref m4, .ref m5, .int v6, .int v7, .int v8, .int v9, .int v10, .long v11, .int v12, .int v13, .int v14, .int v15, .ref m16, .ref m17, .ref m18, .ref m19, .ref m20, .ref m21, .ref m22, .ref m23, .int v24, .ref m25, .ref m26, .ref m27, .ref m28, .ref m29, .int v30, .ref m31, .ref m32, .ref m33, .int v34, .int v35, .int v36, .ref m37, .ref m38, .ref m39, .ref m40, .long v41])), (m17, .inl (k 0, 30, .inl f17)), (m26, .inl (k 0, 8, .inl f26))] ∧ va_S A s.heap H locs ∧ lv_has ls 3 [(0, .ref mo), (1, .int L4l1), (2, .int L4l2)]) (fun n9 H locs ls hI ih_1 => ?_) _ _ _ _ ⟨0, 0, rfl, (show 0 ≤ 0 ∧ 0 ≤ 100000 from by omega), (show 0 ≤ 0 ∧ 0 ≤ 8 from by omega), hP.sub (ws' := [(mo, .inr (12, [.int v0, .ref m1, .ref m2, .ref m3, .ref m4, .ref m5, .int v6, .int v7, .int v8, .int v9, .int v10, .long v11, .int v12, .int v13, .int v14, .int v15, .ref m16, .ref m17, .ref m18, .ref m19, .ref m20, .ref m21, .ref m22, .ref m23, .int v24, .ref m25, .ref m26, .ref m27, .ref m28, .ref m29, .int v30, .ref m31, .ref m32, .ref m33, .int v34, .int v35, .int v36, .ref m37, .ref m38, .ref m39, .ref m40, .long v41])), (m17, .inl (k 0, 30, .inl f17)), (m26, .inl (k 0, 8, .inl f26))]) [0, 1, 2] rfl, hD.sub (ws' := [(mo, .inr (12, [.int v0, .ref m1, .ref m2, .ref m3, .ref m4, .ref m5, .int v6, .int v7, .int v8, .int v9, .int v10, .long v11, .int v12, .int v13, .int v14, .int v15, .ref m16, .ref m17, .ref m18, .ref m19, .ref m20, .ref m21, .ref m22, .ref m23, .int v24, .ref m25, .ref m26, .ref m27, .ref m28, .ref m29, .int v30, .ref m31, .ref m32, .ref m33, .int v34, .int v35, .int v36, .ref m37, .ref m38, .ref m39, .ref m40, .long v41])), (m17, .inl (k 0, 30, .inl f17)), (m26, .inl (k 0, 8, .inl f26))]) [0, 1, 2] (by decide) rfl, hS, lv_sub hl [2, 1, 0] rfl⟩
  clear hP hD hS hl
  obtain ⟨L4l1, L4l2, en_2, zL4l1, zL4l2, hP, hD, hS, hl⟩ := hI
  refine lv_iload_n hx hb dX12_fullOf_4 rfl (lv_at hl 2 rfl) ?_
  refine lv_aload_n hx hb dX12_fullOf_5 rfl (lv_at hl 0 rfl) ?_
  refine va_get (D := D) (ci := 12) (v := .ref m17) (C := RX12) (T := TX12) (N := 42) hx hb hts iT_X12 hown hK hP 0 rfl rfl 17 (by decide) (hts _ tw_6_70) (fun _ h9 => h9) rfl dX12_fullOf_6 ?_
  refine lv_iconst (v := 0) hx hb dX12_fullOf_9 (by decide) ?_
  refine va_iald hx hb hK hP 1 0 rfl rfl (z_in (by decide) (by decide)) dX12_fullOf_10 ?_
  refine lv_topi (fun x_3 ex_3 => ?_)
  have zx_3r0 : 0 ≤ x_3.toInt ∧ x_3.toInt ≤ 8 := by rw [ex_3]; exact PR.ld hp_f17_0 (by decide) (by decide) (by decide)
  refine lv_icmp_ge (tgt := 41) hx hb dX12_fullOf_11 (by decide) (fun h_4 => ?_) (fun h_4 => ?_)
  · skip
    have zh_4 : x_3.toInt ≤ L4l2.toInt := z_le h_4
    refine lv_iload_n hx hb dX12_fullOf_41 rfl (lv_at hl 1 rfl) ?_
    refine lv_ldc (v := 100000) hx hb hown (hts _ tw_7_5) dX12_fullOf_42 ?_
    refine lv_icmp_lt (tgt := 51) hx hb dX12_fullOf_44 (by decide) (fun h_5 => ?_) (fun h_5 => ?_)
    · skip
      have zh_5 : L4l1.toInt < 100000 := z_lt h_5
      refine lv_iload_n hx hb dX12_fullOf_51 rfl (lv_at hl 1 rfl) ?_
      have hP9 := hP.sub (ws' := [(mo, .inr (12, [.int v0, .ref m1, .ref m2, .ref m3, .ref m4, .ref m5, .int v6, .int v7, .int v8, .int v9, .int v10, .long v11, .int v12, .int v13, .int v14, .int v15, .ref m16, .ref m17, .ref m18, .ref m19, .ref m20, .ref m21, .ref m22, .ref m23, .int v24, .ref m25, .ref m26, .ref m27, .ref m28, .ref m29, .int v30, .ref m31, .ref m32, .ref m33, .int v34, .int v35, .int v36, .ref m37, .ref m38, .ref m39, .ref m40, .long v41])), (m17, .inl (k 0, 30, .inl f17)), (m26, .inl (k 0, 8, .inl f26))]) [0, 1, 2] rfl
      have hD9 := hD.sub (ws' := [(mo, .inr (12, [.int v0, .ref m1, .ref m2, .ref m3, .ref m4, .ref m5, .int v6, .int v7, .int v8, .int v9, .int v10, .long v11, .int v12, .int v13, .int v14, .int v15, .ref m16, .ref m17, .ref m18, .ref m19, .ref m20, .ref m21, .ref m22, .ref m23, .int v24, .ref m25, .ref m26, .ref m27, .ref m28, .ref m29, .int v30, .ref m31, .ref m32, .ref m33, .int v34, .int v35, .int v36, .ref m37, .ref m38, .ref m39, .ref m40, .long v41])), (m17, .inl (k 0, 30, .inl f17)), (m26, .inl (k 0, 8, .inl f26))]) [0, 1, 2] (by decide) rfl
      exact W.iret (v := L4l1) hx hb hr (fun tZ ht hW => ⟨⟨L4l1, (), rfl, (show (-1) ≤ L4l1.toInt ∧ L4l1.toInt ≤ 99999 from by omega), by rw [ht]; exact hP9, va_K.moved hW.alike hK, hD9⟩, hS.F ht⟩) hS.2.2 dX12_fullOf_52
    · skip
      have zh_5 : 100000 ≤ L4l1.toInt := z_nlt h_5
      refine lv_iconst (v := (-1)) hx hb dX12_fullOf_47 (by decide) ?_
      refine lv_goto (tgt := 52) hx hb dX12_fullOf_48 (by decide) ?_
      have hP9 := hP.sub (ws' := [(mo, .inr (12, [.int v0, .ref m1, .ref m2, .ref m3, .ref m4, .ref m5, .int v6, .int v7, .int v8, .int v9, .int v10, .long v11, .int v12, .int v13, .int v14, .int v15, .ref m16, .ref m17, .ref m18, .ref m19, .ref m20, .ref m21, .ref m22, .ref m23, .int v24, .ref m25, .ref m26, .ref m27, .ref m28, .ref m29, .int v30, .ref m31, .ref m32, .ref m33, .int v34, .int v35, .int v36, .ref m37, .ref m38, .ref m39, .ref m40, .long v41])), (m17, .inl (k 0, 30, .inl f17)), (m26, .inl (k 0, 8, .inl f26))]) [0, 1, 2] rfl
      have hD9 := hD.sub (ws' := [(mo, .inr (12, [.int v0, .ref m1, .ref m2, .ref m3, .ref m4, .ref m5, .int v6, .int v7, .int v8, .int v9, .int v10, .long v11, .int v12, .int v13, .int v14, .int v15, .ref m16, .ref m17, .ref m18, .ref m19, .ref m20, .ref m21, .ref m22, .ref m23, .int v24, .ref m25, .ref m26, .ref m27, .ref m28, .ref m29, .int v30, .ref m31, .ref m32, .ref m33, .int v34, .int v35, .int v36, .ref m37, .ref m38, .ref m39, .ref m40, .long v41])), (m17, .inl (k 0, 30, .inl f17)), (m26, .inl (k 0, 8, .inl f26))]) [0, 1, 2] (by decide) rfl
      exact W.iret (v := (-1)) hx hb hr (fun tZ ht hW => ⟨⟨(-1), (), rfl, (show (-1) ≤ (-1) ∧ (-1) ≤ 99999 from by omega), by rw [ht]; exact hP9, va_K.moved hW.alike hK, hD9⟩, hS.F ht⟩) hS.2.2 dX12_fullOf_52
  · skip
    have zh_4 : L4l2.toInt < x_3.toInt := z_nle h_4
    refine lv_aload_n hx hb dX12_fullOf_14 rfl (lv_at hl 0 rfl) ?_
    refine va_get (D := D) (ci := 12) (v := .ref m26) (C := RX12) (T := TX12) (N := 42) hx hb hts iT_X12 hown hK hP 0 rfl rfl 26 (by decide) (hts _ tw_6_79) (fun _ h9 => h9) rfl dX12_fullOf_15 ?_
    refine lv_iload_n hx hb dX12_fullOf_18 rfl (lv_at hl 2 rfl) ?_
    refine va_iald hx hb hK hP 2 0 rfl rfl (z_in (by omega) (by omega)) dX12_fullOf_19 ?_
    refine lv_topi (fun x_6 ex_6 => ?_)
    have zx_6r0 : 0 ≤ x_6.toInt ∧ x_6.toInt ≤ 100000 := by rw [ex_6]; exact PR.ld hp_f26_0 (by omega) (by omega) (by omega)
    refine lv_iload_n hx hb dX12_fullOf_20 rfl (lv_at hl 1 rfl) ?_
    refine lv_icmp_le (tgt := 33) hx hb dX12_fullOf_21 (by decide) (fun h_7 => ?_) (fun h_7 => ?_)
    · skip
      have zh_7 : x_6.toInt ≤ L4l1.toInt := z_le h_7
      refine lv_iload_n hx hb dX12_fullOf_33 rfl (lv_at hl 1 rfl) ?_
      refine lv_istore_n (lv' := [(1, .int L4l1), (0, .ref mo), (2, .int L4l2)]) hx hb dX12_fullOf_34 rfl hl (by decide) rfl (fun ls hl => ?_)
      obtain ⟨x_8, ex_8⟩ : ∃ y : Int32, y = L4l2 + 1 := ⟨_, rfl⟩
      have zx_8 : x_8.toInt = L4l2.toInt + 1 := by rw [ex_8]; exact z_add rfl rfl (by omega) (by omega)
      refine lv_iinc (v := x_8) (lv' := [(2, .int x_8), (1, .int L4l1), (0, .ref mo)]) hx hb dX12_fullOf_35 hl (k := 2) rfl (by rw [ex_8]; rfl) (by decide) rfl (fun ls hl => ?_)
      refine lv_goto (tgt := 4) hx hb dX12_fullOf_38 (by decide) ?_
      exact ih_1 _ _ _ _ (by omega) ⟨L4l1, x_8, rfl, (show 0 ≤ L4l1.toInt ∧ L4l1.toInt ≤ 100000 from by omega), (show 0 ≤ x_8.toInt ∧ x_8.toInt ≤ 8 from by omega), hP.sub (ws' := [(mo, .inr (12, [.int v0, .ref m1, .ref m2, .ref m3, .ref m4, .ref m5, .int v6, .int v7, .int v8, .int v9, .int v10, .long v11, .int v12, .int v13, .int v14, .int v15, .ref m16, .ref m17, .ref m18, .ref m19, .ref m20, .ref m21, .ref m22, .ref m23, .int v24, .ref m25, .ref m26, .ref m27, .ref m28, .ref m29, .int v30, .ref m31, .ref m32, .ref m33, .int v34, .int v35, .int v36, .ref m37, .ref m38, .ref m39, .ref m40, .long v41])), (m17, .inl (k 0, 30, .inl f17)), (m26, .inl (k 0, 8, .inl f26))]) [0, 1, 2] rfl, hD.sub (ws' := [(mo, .inr (12, [.int v0, .ref m1, .ref m2, .ref m3, .ref m4, .ref m5, .int v6, .int v7, .int v8, .int v9, .int v10, .long v11, .int v12, .int v13, .int v14, .int v15, .ref m16, .ref m17, .ref m18, .ref m19, .ref m20, .ref m21, .ref m22, .ref m23, .int v24, .ref m25, .ref m26, .ref m27, .ref m28, .ref m29, .int v30, .ref m31, .ref m32, .ref m33, .int v34, .int v35, .int v36, .ref m37, .ref m38, .ref m39, .ref m40, .long v41])), (m17, .inl (k 0, 30, .inl f17)), (m26, .inl (k 0, 8, .inl f26))]) [0, 1, 2] (by decide) rfl, hS, lv_sub hl [2, 1, 0] rfl⟩
    · skip
      have zh_7 : L4l1.toInt < x_6.toInt := z_nle h_7
      refine lv_aload_n hx hb dX12_fullOf_24 rfl (lv_at hl 0 rfl) ?_
      refine va_get (D := D) (ci := 12) (v := .ref m26) (C := RX12) (T := TX12) (N := 42) hx hb hts iT_X12 hown hK hP 0 rfl rfl 26 (by decide) (hts _ tw_6_79) (fun _ h9 => h9) rfl dX12_fullOf_25 ?_
      refine lv_iload_n hx hb dX12_fullOf_28 rfl (lv_at hl 2 rfl) ?_
      refine va_iald hx hb hK hP 2 0 rfl rfl (z_in (by omega) (by omega)) dX12_fullOf_29 ?_
      refine lv_topi (fun x_9 ex_9 => ?_)
      obtain rfl : x_6 = x_9 := ex_6.trans ex_9.symm
      refine lv_goto (tgt := 34) hx hb dX12_fullOf_30 (by decide) ?_
      refine lv_istore_n (lv' := [(1, .int x_6), (0, .ref mo), (2, .int L4l2)]) hx hb dX12_fullOf_34 rfl hl (by decide) rfl (fun ls hl => ?_)
      obtain ⟨x_10, ex_10⟩ : ∃ y : Int32, y = L4l2 + 1 := ⟨_, rfl⟩
      have zx_10 : x_10.toInt = L4l2.toInt + 1 := by rw [ex_10]; exact z_add rfl rfl (by omega) (by omega)
      refine lv_iinc (v := x_10) (lv' := [(2, .int x_10), (1, .int x_6), (0, .ref mo)]) hx hb dX12_fullOf_35 hl (k := 2) rfl (by rw [ex_10]; rfl) (by decide) rfl (fun ls hl => ?_)
      refine lv_goto (tgt := 4) hx hb dX12_fullOf_38 (by decide) ?_
      exact ih_1 _ _ _ _ (by omega) ⟨x_6, x_10, rfl, (show 0 ≤ x_6.toInt ∧ x_6.toInt ≤ 100000 from by omega), (show 0 ≤ x_10.toInt ∧ x_10.toInt ≤ 8 from by omega), hP.sub (ws' := [(mo, .inr (12, [.int v0, .ref m1, .ref m2, .ref m3, .ref m4, .ref m5, .int v6, .int v7, .int v8, .int v9, .int v10, .long v11, .int v12, .int v13, .int v14, .int v15, .ref m16, .ref m17, .ref m18, .ref m19, .ref m20, .ref m21, .ref m22, .ref m23, .int v24, .ref m25, .ref m26, .ref m27, .ref m28, .ref m29, .int v30, .ref m31, .ref m32, .ref m33, .int v34, .int v35, .int v36, .ref m37, .ref m38, .ref m39, .ref m40, .long v41])), (m17, .inl (k 0, 30, .inl f17)), (m26, .inl (k 0, 8, .inl f26))]) [0, 1, 2] rfl, hD.sub (ws' := [(mo, .inr (12, [.int v0, .ref m1, .ref m2, .ref m3, .ref m4, .ref m5, .int v6, .int v7, .int v8, .int v9, .int v10, .long v11, .int v12, .int v13, .int v14, .int v15, .ref m16, .ref m17, .ref m18, .ref m19, .ref m20, .ref m21, .ref m22, .ref m23, .int v24, .ref m25, .ref m26, .ref m27, .ref m28, .ref m29, .int v30, .ref m31, .ref m32, .ref m33, .int v34, .int v35, .int v36, .ref m37, .ref m38, .ref m39, .ref m40, .long v41])), (m17, .inl (k 0, 30, .inl f17)), (m26, .inl (k 0, 8, .inl f26))]) [0, 1, 2] (by decide) rfl, hS, lv_sub hl [2, 1, 0] rfl⟩
set_option maxHeartbeats 4000000 in
set_option maxRecDepth 100000 in
theorem c_X12_keeps (l : Launch) (D : va_G) (k : Nat → ClassId) (mo : Nat) (v0 : Int32) (m1 : Nat) (m2 : Nat) (m3 : Nat) (m4 : Nat) (m5 : Nat) (v6 : Int32) (v7 : Int32) (v8 : Int32) (v9 : Int32) (v10 : Int32) (v11 : Int64) (v12 : Int32) (v13 : Int32) (v14 : Int32) (v15 : Int32) (m16 : Nat) (m17 : Nat) (m18 : Nat) (m19 : Nat) (m20 : Nat) (m21 : Nat) (m22 : Nat) (m23 : Nat) (v24 : Int32) (m25 : Nat) (m26 : Nat) (m27 : Nat) (m28 : Nat) (m29 : Nat) (v30 : Int32) (m31 : Nat) (m32 : Nat) (m33 : Nat) (v34 : Int32) (v35 : Int32) (v36 : Int32) (m37 : Nat) (m38 : Nat) (m39 : Nat) (m40 : Nat) (v41 : Int64) (f26 : Nat → Int32) (f27 : Nat → Int32) (sz : Nat) (h_v6 : 0 ≤ v6.toInt ∧ v6.toInt ≤ 1000) (h_v24 : 0 ≤ v24.toInt ∧ v24.toInt ≤ 1023) (hp_f26_0 : PR 8 1 0 0 100000 f26) (hp_f27_0 : PR 8 1 0 0 100000 f27) : Met l yX12_keeps (ww yX12_keeps cX12_keeps 2 none) ({ frames := 0, cells := 0, slots := 0, locals := 0 }) (Pre0 D k [(mo, .inr (12, [.int v0, .ref m1, .ref m2, .ref m3, .ref m4, .ref m5, .int v6, .int v7, .int v8, .int v9, .int v10, .long v11, .int v12, .int v13, .int v14, .int v15, .ref m16, .ref m17, .ref m18, .ref m19, .ref m20, .ref m21, .ref m22, .ref m23, .int v24, .ref m25, .ref m26, .ref m27, .ref m28, .ref m29, .int v30, .ref m31, .ref m32, .ref m33, .int v34, .int v35, .int v36, .ref m37, .ref m38, .ref m39, .ref m40, .long v41])), (m26, .inl (k 0, 8, .inl f26)), (m27, .inl (k 0, 8, .inl f27))] sz [.ref mo]) (va_Qv (fun (f27z : (Nat → Int32)) => (PR 8 1 0 0 100000 f27z)) (fun (f27z : (Nat → Int32)) tZ => Bw D k (va_A [(mo, .inr (12, [.int v0, .ref m1, .ref m2, .ref m3, .ref m4, .ref m5, .int v6, .int v7, .int v8, .int v9, .int v10, .long v11, .int v12, .int v13, .int v14, .int v15, .ref m16, .ref m17, .ref m18, .ref m19, .ref m20, .ref m21, .ref m22, .ref m23, .int v24, .ref m25, .ref m26, .ref m27, .ref m28, .ref m29, .int v30, .ref m31, .ref m32, .ref m33, .int v34, .int v35, .int v36, .ref m37, .ref m38, .ref m39, .ref m40, .long v41])), (m26, .inl (k 0, 8, .inl f26)), (m27, .inl (k 0, 8, .inl f27))] sz) [(mo, .inr (12, [.int v0, .ref m1, .ref m2, .ref m3, .ref m4, .ref m5, .int v6, .int v7, .int v8, .int v9, .int v10, .long v11, .int v12, .int v13, .int v14, .int v15, .ref m16, .ref m17, .ref m18, .ref m19, .ref m20, .ref m21, .ref m22, .ref m23, .int v24, .ref m25, .ref m26, .ref m27, .ref m28, .ref m29, .int v30, .ref m31, .ref m32, .ref m33, .int v34, .int v35, .int v36, .ref m37, .ref m38, .ref m39, .ref m40, .long v41])), (m26, .inl (k 0, 8, .inl f26)), (m27, .inl (k 0, 8, .inl f27z))] tZ) (va_A [(mo, .inr (12, [.int v0, .ref m1, .ref m2, .ref m3, .ref m4, .ref m5, .int v6, .int v7, .int v8, .int v9, .int v10, .long v11, .int v12, .int v13, .int v14, .int v15, .ref m16, .ref m17, .ref m18, .ref m19, .ref m20, .ref m21, .ref m22, .ref m23, .int v24, .ref m25, .ref m26, .ref m27, .ref m28, .ref m29, .int v30, .ref m31, .ref m32, .ref m33, .int v34, .int v35, .int v36, .ref m37, .ref m38, .ref m39, .ref m40, .long v41])), (m26, .inl (k 0, 8, .inl f26)), (m27, .inl (k 0, 8, .inl f27))] sz)) 0 0 (va_A [(mo, .inr (12, [.int v0, .ref m1, .ref m2, .ref m3, .ref m4, .ref m5, .int v6, .int v7, .int v8, .int v9, .int v10, .long v11, .int v12, .int v13, .int v14, .int v15, .ref m16, .ref m17, .ref m18, .ref m19, .ref m20, .ref m21, .ref m22, .ref m23, .int v24, .ref m25, .ref m26, .ref m27, .ref m28, .ref m29, .int v30, .ref m31, .ref m32, .ref m33, .int v34, .int v35, .int v36, .ref m37, .ref m38, .ref m39, .ref m40, .long v41])), (m26, .inl (k 0, 8, .inl f26)), (m27, .inl (k 0, 8, .inl f27))] sz) := by
  refine Met.ofW (cc := cX12_keeps) (maxL := 2) (ret := none) (by decide +kernel) rfl ?_
  intro p e s m args below meth c s₁ B hml hv
  obtain ⟨rfl, hsz, hP, hK, hD0, hN⟩ := hv
  have hx := B.exec
  have hb := B.bytes
  have hr := B.returns
  have hts : ∀ w ∈ TT, w.before _ s = true := fun w h => atoms_spec (ws := ww yX12_keeps cX12_keeps 2 none) B.pre w (List.mem_cons_of_mem _ h)
  have hown : s.vm.findClass RX12 = some m.cls := findClass_of_methodNamed B.named
  have hlocks := B.notSynchronized
  subst hsz
  have hD := hD0.self (sz := s.heap.size)
  generalize hAe : va_A [(mo, .inr (12, [.int v0, .ref m1, .ref m2, .ref m3, .ref m4, .ref m5, .int v6, .int v7, .int v8, .int v9, .int v10, .long v11, .int v12, .int v13, .int v14, .int v15, .ref m16, .ref m17, .ref m18, .ref m19, .ref m20, .ref m21, .ref m22, .ref m23, .int v24, .ref m25, .ref m26, .ref m27, .ref m28, .ref m29, .int v30, .ref m31, .ref m32, .ref m33, .int v34, .int v35, .int v36, .ref m37, .ref m38, .ref m39, .ref m40, .long v41])), (m26, .inl (k 0, 8, .inl f26)), (m27, .inl (k 0, 8, .inl f27))] s.heap.size = A at hD ⊢
  have hA : ∀ q : Nat, s.heap.size ≤ q → A q := fun q h => by rw [← hAe]; exact Or.inr h
  have hS : va_S A s.heap s.heap [] := va_S.rf
  have hl := lv_entry ([.ref mo]) (n := 2) (Nat.le_of_ble_eq_true rfl)
  rw [lg_entry_eq]
  generalize (lg_sl ([.ref mo]) ++ List.replicate (2 - (lg_sl ([.ref mo])).length) Slot.unset).toArray = ls at hl ⊢
  have hl : lv_has ls 2 [(0, .ref mo)] := hl
  refine lv_iconst (v := 0) hx hb dX12_keeps_0 (by decide) ?_
  refine lv_istore_n (lv' := [(1, .int 0), (0, .ref mo)]) hx hb dX12_keeps_1 rfl hl (by decide) rfl (fun ls hl => ?_)
  refine loop_r (Wg := fun H locs ls => W p l e _ s m _ below meth c H locs _ _ _ (F0 m 2 ls [])) (fun n9 H locs ls => ∃ (L2l1 : Int32) (L2a2 : Nat → Int32), n9 = (8 - L2l1.toInt).toNat ∧ (0 ≤ L2l1.toInt ∧ L2l1.toInt ≤ 8) ∧ (PR 8 1 0 0 100000 L2a2) ∧ va_P D vwCl [(mo, .inr (12, [.int v0, .ref m1, .ref m2, .ref m3, .ref m4, .ref m5, .int v6, .int v7, .int v8, .int v9, .int v10, .long v11, .int v12, .int v13, .int v14, .int v15, .ref m16, .ref m17, .ref m18, .ref m19, .ref m20, .ref m21, .ref m22, .ref m23, .int v24, .ref m25, .ref m26, .ref m27, .ref m28, .ref m29, .int v30, .ref m31, .ref m32, .ref m33, .int v34, .int v35, .int v36, .ref m37, .ref m38, .ref m39, .ref m40, .long v41])), (m26, .inl (k 0, 8, .inl f26)), (m27, .inl (k 0, 8, .inl L2a2))] H ∧ va_D A [(mo, .inr (12, [.int v0, .ref m1, .ref m2, .ref m3, .ref m4, .ref m5, .int v6, .int v7, .int v8, .int v9, .int v10, .long v11, .int v12, .int v13, .int v14, .int v15, .ref m16, .ref m17, .ref m18, .ref m19, .ref m20, .ref m21, .ref m22, .ref m23, .int v24, .ref m25, .ref m26, .ref m27, .ref m28, .ref m29, .int v30, .ref m31, .ref m32, .ref m33, .int v34, .int v35, .int v36, .ref m37, .ref m38, .ref m39, .ref m40, .long v41])), (m26, .inl (k 0, 8, .inl f26)), (m27, .inl (k 0, 8, .inl L2a2))] ∧ va_S A s.heap H locs ∧ lv_has ls 2 [(0, .ref mo), (1, .int L2l1)]) (fun n9 H locs ls hI ih_1 => ?_) _ _ _ _ ⟨0, f27, rfl, (show 0 ≤ 0 ∧ 0 ≤ 8 from by omega), hp_f27_0, hP.sub (ws' := [(mo, .inr (12, [.int v0, .ref m1, .ref m2, .ref m3, .ref m4, .ref m5, .int v6, .int v7, .int v8, .int v9, .int v10, .long v11, .int v12, .int v13, .int v14, .int v15, .ref m16, .ref m17, .ref m18, .ref m19, .ref m20, .ref m21, .ref m22, .ref m23, .int v24, .ref m25, .ref m26, .ref m27, .ref m28, .ref m29, .int v30, .ref m31, .ref m32, .ref m33, .int v34, .int v35, .int v36, .ref m37, .ref m38, .ref m39, .ref m40, .long v41])), (m26, .inl (k 0, 8, .inl f26)), (m27, .inl (k 0, 8, .inl f27))]) [0, 1, 2] rfl, hD.sub (ws' := [(mo, .inr (12, [.int v0, .ref m1, .ref m2, .ref m3, .ref m4, .ref m5, .int v6, .int v7, .int v8, .int v9, .int v10, .long v11, .int v12, .int v13, .int v14, .int v15, .ref m16, .ref m17, .ref m18, .ref m19, .ref m20, .ref m21, .ref m22, .ref m23, .int v24, .ref m25, .ref m26, .ref m27, .ref m28, .ref m29, .int v30, .ref m31, .ref m32, .ref m33, .int v34, .int v35, .int v36, .ref m37, .ref m38, .ref m39, .ref m40, .long v41])), (m26, .inl (k 0, 8, .inl f26)), (m27, .inl (k 0, 8, .inl f27))]) [0, 1, 2] (by decide) rfl, hS, lv_sub hl [1, 0] rfl⟩
  clear hP hD hS hl
  obtain ⟨L2l1, L2a2, en_2, zL2l1, L2a2h0, hP, hD, hS, hl⟩ := hI
  refine lv_iload_n hx hb dX12_keeps_2 rfl (lv_at hl 1 rfl) ?_
  refine lv_bipush (v := 8) hx hb dX12_keeps_3 (by decide) ?_
  refine lv_icmp_ge (tgt := 26) hx hb dX12_keeps_5 (by decide) (fun h_3 => ?_) (fun h_3 => ?_)
  · skip
    have zh_3 : 8 ≤ L2l1.toInt := z_le h_3
    have hP9 := hP.sub (ws' := [(mo, .inr (12, [.int v0, .ref m1, .ref m2, .ref m3, .ref m4, .ref m5, .int v6, .int v7, .int v8, .int v9, .int v10, .long v11, .int v12, .int v13, .int v14, .int v15, .ref m16, .ref m17, .ref m18, .ref m19, .ref m20, .ref m21, .ref m22, .ref m23, .int v24, .ref m25, .ref m26, .ref m27, .ref m28, .ref m29, .int v30, .ref m31, .ref m32, .ref m33, .int v34, .int v35, .int v36, .ref m37, .ref m38, .ref m39, .ref m40, .long v41])), (m26, .inl (k 0, 8, .inl f26)), (m27, .inl (k 0, 8, .inl L2a2))]) [0, 1, 2] rfl
    have hD9 := hD.sub (ws' := [(mo, .inr (12, [.int v0, .ref m1, .ref m2, .ref m3, .ref m4, .ref m5, .int v6, .int v7, .int v8, .int v9, .int v10, .long v11, .int v12, .int v13, .int v14, .int v15, .ref m16, .ref m17, .ref m18, .ref m19, .ref m20, .ref m21, .ref m22, .ref m23, .int v24, .ref m25, .ref m26, .ref m27, .ref m28, .ref m29, .int v30, .ref m31, .ref m32, .ref m33, .int v34, .int v35, .int v36, .ref m37, .ref m38, .ref m39, .ref m40, .long v41])), (m26, .inl (k 0, 8, .inl f26)), (m27, .inl (k 0, 8, .inl L2a2))]) [0, 1, 2] (by decide) rfl
    exact W.vret hx hb hr (fun tZ ht hW => ⟨⟨L2a2, rfl, L2a2h0, by rw [ht]; exact hP9, va_K.moved hW.alike hK, hD9⟩, hS.F ht⟩) hS.2.2 dX12_keeps_26
  · skip
    have zh_3 : L2l1.toInt < 8 := z_nle h_3
    refine lv_aload_n hx hb dX12_keeps_8 rfl (lv_at hl 0 rfl) ?_
    refine va_get (D := D) (ci := 12) (v := .ref m27) (C := RX12) (T := TX12) (N := 42) hx hb hts iT_X12 hown hK hP 0 rfl rfl 27 (by decide) (hts _ tw_6_80) (fun _ h9 => h9) rfl dX12_keeps_9 ?_
    refine lv_iload_n hx hb dX12_keeps_12 rfl (lv_at hl 1 rfl) ?_
    refine lv_aload_n hx hb dX12_keeps_13 rfl (lv_at hl 0 rfl) ?_
    refine va_get (D := D) (ci := 12) (v := .ref m26) (C := RX12) (T := TX12) (N := 42) hx hb hts iT_X12 hown hK hP 0 rfl rfl 26 (by decide) (hts _ tw_6_79) (fun _ h9 => h9) rfl dX12_keeps_14 ?_
    refine lv_iload_n hx hb dX12_keeps_17 rfl (lv_at hl 1 rfl) ?_
    refine va_iald hx hb hK hP 1 0 rfl rfl (z_in (by omega) (by omega)) dX12_keeps_18 ?_
    refine lv_topi (fun x_4 ex_4 => ?_)
    have zx_4r0 : 0 ≤ x_4.toInt ∧ x_4.toInt ≤ 100000 := by rw [ex_4]; exact PR.ld hp_f26_0 (by omega) (by omega) (by omega)
    refine va_iast hx hb hK hP hD hS 2 0 rfl rfl (z_in (by omega) (by omega)) dX12_keeps_19 (fun H locs hP hD hS => ?_)
    obtain ⟨g_5, eg_5⟩ : ∃ z : Nat → Int32, upd L2a2 L2l1.toNatClampNeg x_4 = z := ⟨_, rfl⟩
    have hP : va_P D vwCl [(mo, .inr (12, [.int v0, .ref m1, .ref m2, .ref m3, .ref m4, .ref m5, .int v6, .int v7, .int v8, .int v9, .int v10, .long v11, .int v12, .int v13, .int v14, .int v15, .ref m16, .ref m17, .ref m18, .ref m19, .ref m20, .ref m21, .ref m22, .ref m23, .int v24, .ref m25, .ref m26, .ref m27, .ref m28, .ref m29, .int v30, .ref m31, .ref m32, .ref m33, .int v34, .int v35, .int v36, .ref m37, .ref m38, .ref m39, .ref m40, .long v41])), (m26, .inl (k 0, 8, .inl f26)), (m27, .inl (k 0, 8, .inl (upd L2a2 L2l1.toNatClampNeg x_4)))] H := hP
    have hD : va_D A [(mo, .inr (12, [.int v0, .ref m1, .ref m2, .ref m3, .ref m4, .ref m5, .int v6, .int v7, .int v8, .int v9, .int v10, .long v11, .int v12, .int v13, .int v14, .int v15, .ref m16, .ref m17, .ref m18, .ref m19, .ref m20, .ref m21, .ref m22, .ref m23, .int v24, .ref m25, .ref m26, .ref m27, .ref m28, .ref m29, .int v30, .ref m31, .ref m32, .ref m33, .int v34, .int v35, .int v36, .ref m37, .ref m38, .ref m39, .ref m40, .long v41])), (m26, .inl (k 0, 8, .inl f26)), (m27, .inl (k 0, 8, .inl (upd L2a2 L2l1.toNatClampNeg x_4)))] := hD
    rw [eg_5] at hP hD
    have hp_6 : PR 8 1 0 0 100000 g_5 := by rw [← eg_5]; exact PR.put L2a2h0 ⟨by omega, by omega⟩
    obtain ⟨x_7, ex_7⟩ : ∃ y : Int32, y = L2l1 + 1 := ⟨_, rfl⟩
    have zx_7 : x_7.toInt = L2l1.toInt + 1 := by rw [ex_7]; exact z_add rfl rfl (by omega) (by omega)
    refine lv_iinc (v := x_7) (lv' := [(1, .int x_7), (0, .ref mo)]) hx hb dX12_keeps_20 hl (k := 1) rfl (by rw [ex_7]; rfl) (by decide) rfl (fun ls hl => ?_)
    refine lv_goto (tgt := 2) hx hb dX12_keeps_23 (by decide) ?_
    exact ih_1 _ _ _ _ (by omega) ⟨x_7, g_5, rfl, (show 0 ≤ x_7.toInt ∧ x_7.toInt ≤ 8 from by omega), hp_6, hP.sub (ws' := [(mo, .inr (12, [.int v0, .ref m1, .ref m2, .ref m3, .ref m4, .ref m5, .int v6, .int v7, .int v8, .int v9, .int v10, .long v11, .int v12, .int v13, .int v14, .int v15, .ref m16, .ref m17, .ref m18, .ref m19, .ref m20, .ref m21, .ref m22, .ref m23, .int v24, .ref m25, .ref m26, .ref m27, .ref m28, .ref m29, .int v30, .ref m31, .ref m32, .ref m33, .int v34, .int v35, .int v36, .ref m37, .ref m38, .ref m39, .ref m40, .long v41])), (m26, .inl (k 0, 8, .inl f26)), (m27, .inl (k 0, 8, .inl g_5))]) [0, 1, 2] rfl, hD.sub (ws' := [(mo, .inr (12, [.int v0, .ref m1, .ref m2, .ref m3, .ref m4, .ref m5, .int v6, .int v7, .int v8, .int v9, .int v10, .long v11, .int v12, .int v13, .int v14, .int v15, .ref m16, .ref m17, .ref m18, .ref m19, .ref m20, .ref m21, .ref m22, .ref m23, .int v24, .ref m25, .ref m26, .ref m27, .ref m28, .ref m29, .int v30, .ref m31, .ref m32, .ref m33, .int v34, .int v35, .int v36, .ref m37, .ref m38, .ref m39, .ref m40, .long v41])), (m26, .inl (k 0, 8, .inl f26)), (m27, .inl (k 0, 8, .inl g_5))]) [0, 1, 2] (by decide) rfl, hS, lv_sub hl [1, 0] rfl⟩
set_option maxHeartbeats 4000000 in
set_option maxRecDepth 100000 in
theorem c_X12_later (l : Launch) (D : va_G) (k : Nat → ClassId) (mo : Nat) (v0 : Int32) (m1 : Nat) (m2 : Nat) (m3 : Nat) (m4 : Nat) (m5 : Nat) (v6 : Int32) (v7 : Int32) (v8 : Int32) (v9 : Int32) (v10 : Int32) (v11 : Int64) (v12 : Int32) (v13 : Int32) (v14 : Int32) (v15 : Int32) (m16 : Nat) (m17 : Nat) (m18 : Nat) (m19 : Nat) (m20 : Nat) (m21 : Nat) (m22 : Nat) (m23 : Nat) (v24 : Int32) (m25 : Nat) (m26 : Nat) (m27 : Nat) (m28 : Nat) (m29 : Nat) (v30 : Int32) (m31 : Nat) (m32 : Nat) (m33 : Nat) (v34 : Int32) (v35 : Int32) (v36 : Int32) (m37 : Nat) (m38 : Nat) (m39 : Nat) (m40 : Nat) (v41 : Int64) (f17 : Nat → Int32) (f26 : Nat → Int32) (f27 : Nat → Int32) (sz : Nat) (h_v6 : 0 ≤ v6.toInt ∧ v6.toInt ≤ 1000) (h_v24 : 0 ≤ v24.toInt ∧ v24.toInt ≤ 1023) (hp_f17_0 : PR 30 6 0 0 8 f17) (hp_f17_1 : PR 30 6 1 0 10 f17) (hp_f17_2 : PR 30 6 2 0 4 f17) (hp_f17_3 : PR 30 6 3 0 6 f17) (hp_f17_4 : PR 30 6 4 0 2 f17) (hp_f17_5 : PR 30 6 5 0 40 f17) (hp_f26_0 : PR 8 1 0 0 100000 f26) (hp_f27_0 : PR 8 1 0 0 100000 f27) : Met l yX12_later (ww yX12_later cX12_later 3 (some .int)) ({ frames := 0, cells := 0, slots := 0, locals := 0 }) (Pre0 D k [(mo, .inr (12, [.int v0, .ref m1, .ref m2, .ref m3, .ref m4, .ref m5, .int v6, .int v7, .int v8, .int v9, .int v10, .long v11, .int v12, .int v13, .int v14, .int v15, .ref m16, .ref m17, .ref m18, .ref m19, .ref m20, .ref m21, .ref m22, .ref m23, .int v24, .ref m25, .ref m26, .ref m27, .ref m28, .ref m29, .int v30, .ref m31, .ref m32, .ref m33, .int v34, .int v35, .int v36, .ref m37, .ref m38, .ref m39, .ref m40, .long v41])), (m17, .inl (k 0, 30, .inl f17)), (m26, .inl (k 0, 8, .inl f26)), (m27, .inl (k 0, 8, .inl f27))] sz [.ref mo]) (va_Qi (fun (r : Int32) (_ : Unit) => True) (fun (_ : Unit) tZ => Bw D k (va_A [(mo, .inr (12, [.int v0, .ref m1, .ref m2, .ref m3, .ref m4, .ref m5, .int v6, .int v7, .int v8, .int v9, .int v10, .long v11, .int v12, .int v13, .int v14, .int v15, .ref m16, .ref m17, .ref m18, .ref m19, .ref m20, .ref m21, .ref m22, .ref m23, .int v24, .ref m25, .ref m26, .ref m27, .ref m28, .ref m29, .int v30, .ref m31, .ref m32, .ref m33, .int v34, .int v35, .int v36, .ref m37, .ref m38, .ref m39, .ref m40, .long v41])), (m17, .inl (k 0, 30, .inl f17)), (m26, .inl (k 0, 8, .inl f26)), (m27, .inl (k 0, 8, .inl f27))] sz) [(mo, .inr (12, [.int v0, .ref m1, .ref m2, .ref m3, .ref m4, .ref m5, .int v6, .int v7, .int v8, .int v9, .int v10, .long v11, .int v12, .int v13, .int v14, .int v15, .ref m16, .ref m17, .ref m18, .ref m19, .ref m20, .ref m21, .ref m22, .ref m23, .int v24, .ref m25, .ref m26, .ref m27, .ref m28, .ref m29, .int v30, .ref m31, .ref m32, .ref m33, .int v34, .int v35, .int v36, .ref m37, .ref m38, .ref m39, .ref m40, .long v41])), (m17, .inl (k 0, 30, .inl f17)), (m26, .inl (k 0, 8, .inl f26)), (m27, .inl (k 0, 8, .inl f27))] tZ) (va_A [(mo, .inr (12, [.int v0, .ref m1, .ref m2, .ref m3, .ref m4, .ref m5, .int v6, .int v7, .int v8, .int v9, .int v10, .long v11, .int v12, .int v13, .int v14, .int v15, .ref m16, .ref m17, .ref m18, .ref m19, .ref m20, .ref m21, .ref m22, .ref m23, .int v24, .ref m25, .ref m26, .ref m27, .ref m28, .ref m29, .int v30, .ref m31, .ref m32, .ref m33, .int v34, .int v35, .int v36, .ref m37, .ref m38, .ref m39, .ref m40, .long v41])), (m17, .inl (k 0, 30, .inl f17)), (m26, .inl (k 0, 8, .inl f26)), (m27, .inl (k 0, 8, .inl f27))] sz)) 0 0 (va_A [(mo, .inr (12, [.int v0, .ref m1, .ref m2, .ref m3, .ref m4, .ref m5, .int v6, .int v7, .int v8, .int v9, .int v10, .long v11, .int v12, .int v13, .int v14, .int v15, .ref m16, .ref m17, .ref m18, .ref m19, .ref m20, .ref m21, .ref m22, .ref m23, .int v24, .ref m25, .ref m26, .ref m27, .ref m28, .ref m29, .int v30, .ref m31, .ref m32, .ref m33, .int v34, .int v35, .int v36, .ref m37, .ref m38, .ref m39, .ref m40, .long v41])), (m17, .inl (k 0, 30, .inl f17)), (m26, .inl (k 0, 8, .inl f26)), (m27, .inl (k 0, 8, .inl f27))] sz) := by
  refine Met.ofW (cc := cX12_later) (maxL := 3) (ret := (some .int)) (by decide +kernel) rfl ?_
  intro p e s m args below meth c s₁ B hml hv
  obtain ⟨rfl, hsz, hP, hK, hD0, hN⟩ := hv
  have hx := B.exec
  have hb := B.bytes
  have hr := B.returns
  have hts : ∀ w ∈ TT, w.before _ s = true := fun w h => atoms_spec (ws := ww yX12_later cX12_later 3 (some .int)) B.pre w (List.mem_cons_of_mem _ h)
  have hown : s.vm.findClass RX12 = some m.cls := findClass_of_methodNamed B.named
  have hlocks := B.notSynchronized
  subst hsz
  have hD := hD0.self (sz := s.heap.size)
  generalize hAe : va_A [(mo, .inr (12, [.int v0, .ref m1, .ref m2, .ref m3, .ref m4, .ref m5, .int v6, .int v7, .int v8, .int v9, .int v10, .long v11, .int v12, .int v13, .int v14, .int v15, .ref m16, .ref m17, .ref m18, .ref m19, .ref m20, .ref m21, .ref m22, .ref m23, .int v24, .ref m25, .ref m26, .ref m27, .ref m28, .ref m29, .int v30, .ref m31, .ref m32, .ref m33, .int v34, .int v35, .int v36, .ref m37, .ref m38, .ref m39, .ref m40, .long v41])), (m17, .inl (k 0, 30, .inl f17)), (m26, .inl (k 0, 8, .inl f26)), (m27, .inl (k 0, 8, .inl f27))] s.heap.size = A at hD ⊢
  have hA : ∀ q : Nat, s.heap.size ≤ q → A q := fun q h => by rw [← hAe]; exact Or.inr h
  have hS : va_S A s.heap s.heap [] := va_S.rf
  have hl := lv_entry ([.ref mo]) (n := 3) (Nat.le_of_ble_eq_true rfl)
  rw [lg_entry_eq]
  generalize (lg_sl ([.ref mo]) ++ List.replicate (3 - (lg_sl ([.ref mo])).length) Slot.unset).toArray = ls at hl ⊢
  have hl : lv_has ls 3 [(0, .ref mo)] := hl
  refine lv_iconst (v := 0) hx hb dX12_later_0 (by decide) ?_
  refine lv_istore_n (lv' := [(1, .int 0), (0, .ref mo)]) hx hb dX12_later_1 rfl hl (by decide) rfl (fun ls hl => ?_)
  refine lv_iconst (v := 0) hx hb dX12_later_2 (by decide) ?_
  refine lv_istore_n (lv' := [(2, .int 0), (1, .int 0), (0, .ref mo)]) hx hb dX12_later_3 rfl hl (by decide) rfl (fun ls hl => ?_)
  refine loop_r (Wg := fun H locs ls => W p l e _ s m _ below meth c H locs _ _ _ (F0 m 4 ls [])) (fun n9 H locs ls => ∃ (L4l1 : Int32) (L4l2 : Int32), n9 = (8 - L4l2.toInt).toNat ∧ (0 ≤ L4l2.toInt ∧ L4l2.toInt ≤ 8) ∧ va_P D vwCl [(mo, .inr (12, [.int v0, .ref m1, .ref m2, .ref m3, .ref m4, .ref m5, .int v6, .int v7, .int v8, .int v9, .int v10, .long v11, .int v12, .int v13, .int v14, .int v15, .ref m16, .ref m17, .ref m18, .ref m19, .ref m20, .ref m21, .ref m22, .ref m23, .int v24, .ref m25, .ref m26, .ref m27, .ref m28, .ref m29, .int v30, .ref m31, .ref m32, .ref m33, .int v34, .int v35, .int v36, .ref m37, .ref m38, .ref m39, .ref m40, .long v41])), (m17, .inl (k 0, 30, .inl f17)), (m26, .inl (k 0, 8, .inl f26)), (m27, .inl (k 0, 8, .inl f27))] H ∧ va_D A [(mo, .inr (12, [.int v0, .ref m1, .ref m2, .ref m3, .ref m4, .ref m5, .int v6, .int v7, .int v8, .int v9, .int v10, .long v11, .int v12, .int v13, .int v14, .int v15, .ref m16, .ref m17, .ref m18, .ref m19, .ref m20, .ref m21, .ref m22, .ref m23, .int v24, .ref m25, .ref m26, .ref m27, .ref m28, .ref m29, .int v30, .ref m31, .ref m32, .ref m33, .int v34, .int v35, .int v36, .ref m37, .ref m38, .ref m39, .ref m40, .long v41])), (m17, .inl (k 0, 30, .inl f17)), (m26, .inl (k 0, 8, .inl f26)), (m27, .inl (k 0, 8, .inl f27))] ∧ va_S A s.heap H locs ∧ lv_has ls 3 [(0, .ref mo), (1, .int L4l1), (2, .int L4l2)]) (fun n9 H locs ls hI ih_1 => ?_) _ _ _ _ ⟨0, 0, rfl, (show 0 ≤ 0 ∧ 0 ≤ 8 from by omega), hP.sub (ws' := [(mo, .inr (12, [.int v0, .ref m1, .ref m2, .ref m3, .ref m4, .ref m5, .int v6, .int v7, .int v8, .int v9, .int v10, .long v11, .int v12, .int v13, .int v14, .int v15, .ref m16, .ref m17, .ref m18, .ref m19, .ref m20, .ref m21, .ref m22, .ref m23, .int v24, .ref m25, .ref m26, .ref m27, .ref m28, .ref m29, .int v30, .ref m31, .ref m32, .ref m33, .int v34, .int v35, .int v36, .ref m37, .ref m38, .ref m39, .ref m40, .long v41])), (m17, .inl (k 0, 30, .inl f17)), (m26, .inl (k 0, 8, .inl f26)), (m27, .inl (k 0, 8, .inl f27))]) [0, 1, 2, 3] rfl, hD.sub (ws' := [(mo, .inr (12, [.int v0, .ref m1, .ref m2, .ref m3, .ref m4, .ref m5, .int v6, .int v7, .int v8, .int v9, .int v10, .long v11, .int v12, .int v13, .int v14, .int v15, .ref m16, .ref m17, .ref m18, .ref m19, .ref m20, .ref m21, .ref m22, .ref m23, .int v24, .ref m25, .ref m26, .ref m27, .ref m28, .ref m29, .int v30, .ref m31, .ref m32, .ref m33, .int v34, .int v35, .int v36, .ref m37, .ref m38, .ref m39, .ref m40, .long v41])), (m17, .inl (k 0, 30, .inl f17)), (m26, .inl (k 0, 8, .inl f26)), (m27, .inl (k 0, 8, .inl f27))]) [0, 1, 2, 3] (by decide) rfl, hS, lv_sub hl [2, 1, 0] rfl⟩
  clear hP hD hS hl
  obtain ⟨L4l1, L4l2, en_2, zL4l2, hP, hD, hS, hl⟩ := hI
  refine lv_iload_n hx hb dX12_later_4 rfl (lv_at hl 2 rfl) ?_
  refine lv_aload_n hx hb dX12_later_5 rfl (lv_at hl 0 rfl) ?_
  refine va_get (D := D) (ci := 12) (v := .ref m17) (C := RX12) (T := TX12) (N := 42) hx hb hts iT_X12 hown hK hP 0 rfl rfl 17 (by decide) (hts _ tw_6_70) (fun _ h9 => h9) rfl dX12_later_6 ?_
  refine lv_iconst (v := 0) hx hb dX12_later_9 (by decide) ?_
  refine va_iald hx hb hK hP 1 0 rfl rfl (z_in (by decide) (by decide)) dX12_later_10 ?_
  refine lv_topi (fun x_3 ex_3 => ?_)
  have zx_3r0 : 0 ≤ x_3.toInt ∧ x_3.toInt ≤ 8 := by rw [ex_3]; exact PR.ld hp_f17_0 (by decide) (by decide) (by decide)
  refine lv_icmp_ge (tgt := 75) hx hb dX12_later_11 (by decide) (fun h_4 => ?_) (fun h_4 => ?_)
  · skip
    have zh_4 : x_3.toInt ≤ L4l2.toInt := z_le h_4
    refine lv_iload_n hx hb dX12_later_75 rfl (lv_at hl 1 rfl) ?_
    have hP9 := hP.sub (ws' := [(mo, .inr (12, [.int v0, .ref m1, .ref m2, .ref m3, .ref m4, .ref m5, .int v6, .int v7, .int v8, .int v9, .int v10, .long v11, .int v12, .int v13, .int v14, .int v15, .ref m16, .ref m17, .ref m18, .ref m19, .ref m20, .ref m21, .ref m22, .ref m23, .int v24, .ref m25, .ref m26, .ref m27, .ref m28, .ref m29, .int v30, .ref m31, .ref m32, .ref m33, .int v34, .int v35, .int v36, .ref m37, .ref m38, .ref m39, .ref m40, .long v41])), (m17, .inl (k 0, 30, .inl f17)), (m26, .inl (k 0, 8, .inl f26)), (m27, .inl (k 0, 8, .inl f27))]) [0, 1, 2, 3] rfl
    have hD9 := hD.sub (ws' := [(mo, .inr (12, [.int v0, .ref m1, .ref m2, .ref m3, .ref m4, .ref m5, .int v6, .int v7, .int v8, .int v9, .int v10, .long v11, .int v12, .int v13, .int v14, .int v15, .ref m16, .ref m17, .ref m18, .ref m19, .ref m20, .ref m21, .ref m22, .ref m23, .int v24, .ref m25, .ref m26, .ref m27, .ref m28, .ref m29, .int v30, .ref m31, .ref m32, .ref m33, .int v34, .int v35, .int v36, .ref m37, .ref m38, .ref m39, .ref m40, .long v41])), (m17, .inl (k 0, 30, .inl f17)), (m26, .inl (k 0, 8, .inl f26)), (m27, .inl (k 0, 8, .inl f27))]) [0, 1, 2, 3] (by decide) rfl
    exact W.iret (v := L4l1) hx hb hr (fun tZ ht hW => ⟨⟨L4l1, (), rfl, trivial, by rw [ht]; exact hP9, va_K.moved hW.alike hK, hD9⟩, hS.F ht⟩) hS.2.2 dX12_later_76
  · skip
    have zh_4 : L4l2.toInt < x_3.toInt := z_nle h_4
    refine lv_iload_n hx hb dX12_later_14 rfl (lv_at hl 1 rfl) ?_
    refine lv_aload_n hx hb dX12_later_15 rfl (lv_at hl 0 rfl) ?_
    refine va_get (D := D) (ci := 12) (v := .ref m27) (C := RX12) (T := TX12) (N := 42) hx hb hts iT_X12 hown hK hP 0 rfl rfl 27 (by decide) (hts _ tw_6_80) (fun _ h9 => h9) rfl dX12_later_16 ?_
    refine lv_iload_n hx hb dX12_later_19 rfl (lv_at hl 2 rfl) ?_
    refine va_iald hx hb hK hP 3 0 rfl rfl (z_in (by omega) (by omega)) dX12_later_20 ?_
    refine lv_topi (fun x_5 ex_5 => ?_)
    have zx_5r0 : 0 ≤ x_5.toInt ∧ x_5.toInt ≤ 100000 := by rw [ex_5]; exact PR.ld hp_f27_0 (by omega) (by omega) (by omega)
    refine lv_ldc (v := 100000) hx hb hown (hts _ tw_7_5) dX12_later_21 ?_
    refine lv_icmp_lt (tgt := 30) hx hb dX12_later_23 (by decide) (fun h_6 => ?_) (fun h_6 => ?_)
    · skip
      have zh_6 : x_5.toInt < 100000 := z_lt h_6
      refine lv_aload_n hx hb dX12_later_30 rfl (lv_at hl 0 rfl) ?_
      refine va_get (D := D) (ci := 12) (v := .ref m26) (C := RX12) (T := TX12) (N := 42) hx hb hts iT_X12 hown hK hP 0 rfl rfl 26 (by decide) (hts _ tw_6_79) (fun _ h9 => h9) rfl dX12_later_31 ?_
      refine lv_iload_n hx hb dX12_later_34 rfl (lv_at hl 2 rfl) ?_
      refine va_iald hx hb hK hP 2 0 rfl rfl (z_in (by omega) (by omega)) dX12_later_35 ?_
      refine lv_topi (fun x_7 ex_7 => ?_)
      have zx_7r0 : 0 ≤ x_7.toInt ∧ x_7.toInt ≤ 100000 := by rw [ex_7]; exact PR.ld hp_f26_0 (by omega) (by omega) (by omega)
      refine lv_ldc (v := 100000) hx hb hown (hts _ tw_7_5) dX12_later_36 ?_
      refine lv_icmp_lt (tgt := 54) hx hb dX12_later_38 (by decide) (fun h_8 => ?_) (fun h_8 => ?_)
      · skip
        have zh_8 : x_7.toInt < 100000 := z_lt h_8
        refine lv_aload_n hx hb dX12_later_54 rfl (lv_at hl 0 rfl) ?_
        refine va_get (D := D) (ci := 12) (v := .ref m26) (C := RX12) (T := TX12) (N := 42) hx hb hts iT_X12 hown hK hP 0 rfl rfl 26 (by decide) (hts _ tw_6_79) (fun _ h9 => h9) rfl dX12_later_55 ?_
        refine lv_iload_n hx hb dX12_later_58 rfl (lv_at hl 2 rfl) ?_
        refine va_iald hx hb hK hP 2 0 rfl rfl (z_in (by omega) (by omega)) dX12_later_59 ?_
        refine lv_topi (fun x_9 ex_9 => ?_)
        obtain rfl : x_7 = x_9 := ex_7.trans ex_9.symm
        refine lv_aload_n hx hb dX12_later_60 rfl (lv_at hl 0 rfl) ?_
        refine va_get (D := D) (ci := 12) (v := .ref m27) (C := RX12) (T := TX12) (N := 42) hx hb hts iT_X12 hown hK hP 0 rfl rfl 27 (by decide) (hts _ tw_6_80) (fun _ h9 => h9) rfl dX12_later_61 ?_
        refine lv_iload_n hx hb dX12_later_64 rfl (lv_at hl 2 rfl) ?_
        refine va_iald hx hb hK hP 3 0 rfl rfl (z_in (by omega) (by omega)) dX12_later_65 ?_
        refine lv_topi (fun x_10 ex_10 => ?_)
        obtain rfl : x_5 = x_10 := ex_5.trans ex_10.symm
        refine lv_isub hx hb dX12_later_66 ?_
        refine lv_topi (fun x_11 ex_11 => ?_)
        have zx_11 : x_11.toInt = x_7.toInt - x_5.toInt := by rw [ex_11]; exact z_sub rfl rfl (by omega) (by omega)
        refine lv_iadd hx hb dX12_later_67 ?_
        refine lv_topi (fun x_12 ex_12 => ?_)
        have zrL4l1 := z_rng L4l1
        refine lv_istore_n (lv' := [(1, .int x_12), (0, .ref mo), (2, .int L4l2)]) hx hb dX12_later_68 rfl hl (by decide) rfl (fun ls hl => ?_)
        obtain ⟨x_13, ex_13⟩ : ∃ y : Int32, y = L4l2 + 1 := ⟨_, rfl⟩
        have zx_13 : x_13.toInt = L4l2.toInt + 1 := by rw [ex_13]; exact z_add rfl rfl (by omega) (by omega)
        refine lv_iinc (v := x_13) (lv' := [(2, .int x_13), (1, .int x_12), (0, .ref mo)]) hx hb dX12_later_69 hl (k := 2) rfl (by rw [ex_13]; rfl) (by decide) rfl (fun ls hl => ?_)
        refine lv_goto (tgt := 4) hx hb dX12_later_72 (by decide) ?_
        exact ih_1 _ _ _ _ (by omega) ⟨x_12, x_13, rfl, (show 0 ≤ x_13.toInt ∧ x_13.toInt ≤ 8 from by omega), hP.sub (ws' := [(mo, .inr (12, [.int v0, .ref m1, .ref m2, .ref m3, .ref m4, .ref m5, .int v6, .int v7, .int v8, .int v9, .int v10, .long v11, .int v12, .int v13, .int v14, .int v15, .ref m16, .ref m17, .ref m18, .ref m19, .ref m20, .ref m21, .ref m22, .ref m23, .int v24, .ref m25, .ref m26, .ref m27, .ref m28, .ref m29, .int v30, .ref m31, .ref m32, .ref m33, .int v34, .int v35, .int v36, .ref m37, .ref m38, .ref m39, .ref m40, .long v41])), (m17, .inl (k 0, 30, .inl f17)), (m26, .inl (k 0, 8, .inl f26)), (m27, .inl (k 0, 8, .inl f27))]) [0, 1, 2, 3] rfl, hD.sub (ws' := [(mo, .inr (12, [.int v0, .ref m1, .ref m2, .ref m3, .ref m4, .ref m5, .int v6, .int v7, .int v8, .int v9, .int v10, .long v11, .int v12, .int v13, .int v14, .int v15, .ref m16, .ref m17, .ref m18, .ref m19, .ref m20, .ref m21, .ref m22, .ref m23, .int v24, .ref m25, .ref m26, .ref m27, .ref m28, .ref m29, .int v30, .ref m31, .ref m32, .ref m33, .int v34, .int v35, .int v36, .ref m37, .ref m38, .ref m39, .ref m40, .long v41])), (m17, .inl (k 0, 30, .inl f17)), (m26, .inl (k 0, 8, .inl f26)), (m27, .inl (k 0, 8, .inl f27))]) [0, 1, 2, 3] (by decide) rfl, hS, lv_sub hl [2, 1, 0] rfl⟩
      · skip
        have zh_8 : 100000 ≤ x_7.toInt := z_nlt h_8
        refine lv_sipush (v := 1000) hx hb dX12_later_41 (by decide) ?_
        refine lv_aload_n hx hb dX12_later_44 rfl (lv_at hl 0 rfl) ?_
        refine va_get (D := D) (ci := 12) (v := .ref m27) (C := RX12) (T := TX12) (N := 42) hx hb hts iT_X12 hown hK hP 0 rfl rfl 27 (by decide) (hts _ tw_6_80) (fun _ h9 => h9) rfl dX12_later_45 ?_
        refine lv_iload_n hx hb dX12_later_48 rfl (lv_at hl 2 rfl) ?_
        refine va_iald hx hb hK hP 3 0 rfl rfl (z_in (by omega) (by omega)) dX12_later_49 ?_
        refine lv_topi (fun x_14 ex_14 => ?_)
        obtain rfl : x_5 = x_14 := ex_5.trans ex_14.symm
        refine lv_isub hx hb dX12_later_50 ?_
        refine lv_topi (fun x_15 ex_15 => ?_)
        have zx_15 : x_15.toInt = 1000 - x_5.toInt := by rw [ex_15]; exact z_sub rfl rfl (by omega) (by omega)
        refine lv_goto (tgt := 67) hx hb dX12_later_51 (by decide) ?_
        refine lv_iadd hx hb dX12_later_67 ?_
        refine lv_topi (fun x_16 ex_16 => ?_)
        have zrL4l1 := z_rng L4l1
        refine lv_istore_n (lv' := [(1, .int x_16), (0, .ref mo), (2, .int L4l2)]) hx hb dX12_later_68 rfl hl (by decide) rfl (fun ls hl => ?_)
        obtain ⟨x_17, ex_17⟩ : ∃ y : Int32, y = L4l2 + 1 := ⟨_, rfl⟩
        have zx_17 : x_17.toInt = L4l2.toInt + 1 := by rw [ex_17]; exact z_add rfl rfl (by omega) (by omega)
        refine lv_iinc (v := x_17) (lv' := [(2, .int x_17), (1, .int x_16), (0, .ref mo)]) hx hb dX12_later_69 hl (k := 2) rfl (by rw [ex_17]; rfl) (by decide) rfl (fun ls hl => ?_)
        refine lv_goto (tgt := 4) hx hb dX12_later_72 (by decide) ?_
        exact ih_1 _ _ _ _ (by omega) ⟨x_16, x_17, rfl, (show 0 ≤ x_17.toInt ∧ x_17.toInt ≤ 8 from by omega), hP.sub (ws' := [(mo, .inr (12, [.int v0, .ref m1, .ref m2, .ref m3, .ref m4, .ref m5, .int v6, .int v7, .int v8, .int v9, .int v10, .long v11, .int v12, .int v13, .int v14, .int v15, .ref m16, .ref m17, .ref m18, .ref m19, .ref m20, .ref m21, .ref m22, .ref m23, .int v24, .ref m25, .ref m26, .ref m27, .ref m28, .ref m29, .int v30, .ref m31, .ref m32, .ref m33, .int v34, .int v35, .int v36, .ref m37, .ref m38, .ref m39, .ref m40, .long v41])), (m17, .inl (k 0, 30, .inl f17)), (m26, .inl (k 0, 8, .inl f26)), (m27, .inl (k 0, 8, .inl f27))]) [0, 1, 2, 3] rfl, hD.sub (ws' := [(mo, .inr (12, [.int v0, .ref m1, .ref m2, .ref m3, .ref m4, .ref m5, .int v6, .int v7, .int v8, .int v9, .int v10, .long v11, .int v12, .int v13, .int v14, .int v15, .ref m16, .ref m17, .ref m18, .ref m19, .ref m20, .ref m21, .ref m22, .ref m23, .int v24, .ref m25, .ref m26, .ref m27, .ref m28, .ref m29, .int v30, .ref m31, .ref m32, .ref m33, .int v34, .int v35, .int v36, .ref m37, .ref m38, .ref m39, .ref m40, .long v41])), (m17, .inl (k 0, 30, .inl f17)), (m26, .inl (k 0, 8, .inl f26)), (m27, .inl (k 0, 8, .inl f27))]) [0, 1, 2, 3] (by decide) rfl, hS, lv_sub hl [2, 1, 0] rfl⟩
    · skip
      have zh_6 : 100000 ≤ x_5.toInt := z_nlt h_6
      refine lv_iconst (v := 0) hx hb dX12_later_26 (by decide) ?_
      refine lv_goto (tgt := 67) hx hb dX12_later_27 (by decide) ?_
      refine lv_iadd hx hb dX12_later_67 ?_
      refine lv_topi (fun x_18 ex_18 => ?_)
      have zrL4l1 := z_rng L4l1
      have zx_18 : x_18.toInt = L4l1.toInt + 0 := by rw [ex_18]; exact z_add rfl rfl (by omega) (by omega)
      refine lv_istore_n (lv' := [(1, .int x_18), (0, .ref mo), (2, .int L4l2)]) hx hb dX12_later_68 rfl hl (by decide) rfl (fun ls hl => ?_)
      obtain ⟨x_19, ex_19⟩ : ∃ y : Int32, y = L4l2 + 1 := ⟨_, rfl⟩
      have zx_19 : x_19.toInt = L4l2.toInt + 1 := by rw [ex_19]; exact z_add rfl rfl (by omega) (by omega)
      refine lv_iinc (v := x_19) (lv' := [(2, .int x_19), (1, .int x_18), (0, .ref mo)]) hx hb dX12_later_69 hl (k := 2) rfl (by rw [ex_19]; rfl) (by decide) rfl (fun ls hl => ?_)
      refine lv_goto (tgt := 4) hx hb dX12_later_72 (by decide) ?_
      exact ih_1 _ _ _ _ (by omega) ⟨x_18, x_19, rfl, (show 0 ≤ x_19.toInt ∧ x_19.toInt ≤ 8 from by omega), hP.sub (ws' := [(mo, .inr (12, [.int v0, .ref m1, .ref m2, .ref m3, .ref m4, .ref m5, .int v6, .int v7, .int v8, .int v9, .int v10, .long v11, .int v12, .int v13, .int v14, .int v15, .ref m16, .ref m17, .ref m18, .ref m19, .ref m20, .ref m21, .ref m22, .ref m23, .int v24, .ref m25, .ref m26, .ref m27, .ref m28, .ref m29, .int v30, .ref m31, .ref m32, .ref m33, .int v34, .int v35, .int v36, .ref m37, .ref m38, .ref m39, .ref m40, .long v41])), (m17, .inl (k 0, 30, .inl f17)), (m26, .inl (k 0, 8, .inl f26)), (m27, .inl (k 0, 8, .inl f27))]) [0, 1, 2, 3] rfl, hD.sub (ws' := [(mo, .inr (12, [.int v0, .ref m1, .ref m2, .ref m3, .ref m4, .ref m5, .int v6, .int v7, .int v8, .int v9, .int v10, .long v11, .int v12, .int v13, .int v14, .int v15, .ref m16, .ref m17, .ref m18, .ref m19, .ref m20, .ref m21, .ref m22, .ref m23, .int v24, .ref m25, .ref m26, .ref m27, .ref m28, .ref m29, .int v30, .ref m31, .ref m32, .ref m33, .int v34, .int v35, .int v36, .ref m37, .ref m38, .ref m39, .ref m40, .long v41])), (m17, .inl (k 0, 30, .inl f17)), (m26, .inl (k 0, 8, .inl f26)), (m27, .inl (k 0, 8, .inl f27))]) [0, 1, 2, 3] (by decide) rfl, hS, lv_sub hl [2, 1, 0] rfl⟩
set_option maxHeartbeats 4000000 in
set_option maxRecDepth 100000 in
theorem c_X12_gladOf (l : Launch) (D : va_G) (k : Nat → ClassId) (mo : Nat) (p0 : Int32) (v0 : Int32) (m1 : Nat) (m2 : Nat) (m3 : Nat) (m4 : Nat) (m5 : Nat) (v6 : Int32) (v7 : Int32) (v8 : Int32) (v9 : Int32) (v10 : Int32) (v11 : Int64) (v12 : Int32) (v13 : Int32) (v14 : Int32) (v15 : Int32) (m16 : Nat) (m17 : Nat) (m18 : Nat) (m19 : Nat) (m20 : Nat) (m21 : Nat) (m22 : Nat) (m23 : Nat) (v24 : Int32) (m25 : Nat) (m26 : Nat) (m27 : Nat) (m28 : Nat) (m29 : Nat) (v30 : Int32) (m31 : Nat) (m32 : Nat) (m33 : Nat) (v34 : Int32) (v35 : Int32) (v36 : Int32) (m37 : Nat) (m38 : Nat) (m39 : Nat) (m40 : Nat) (v41 : Int64) (f20 : Nat → Int32) (f26 : Nat → Int32) (sz : Nat) (h_p0 : 0 ≤ p0.toInt ∧ p0.toInt ≤ 5) (h_v6 : 0 ≤ v6.toInt ∧ v6.toInt ≤ 1000) (h_v24 : 0 ≤ v24.toInt ∧ v24.toInt ≤ 1023) (hp_f20_0 : PR 120 4 0 0 7 f20) (hp_f26_0 : PR 8 1 0 0 100000 f26) : Met l yX12_gladOf (ww yX12_gladOf cX12_gladOf 4 (some .int)) ({ frames := 0, cells := 0, slots := 0, locals := 0 }) (Pre0 D k [(mo, .inr (12, [.int v0, .ref m1, .ref m2, .ref m3, .ref m4, .ref m5, .int v6, .int v7, .int v8, .int v9, .int v10, .long v11, .int v12, .int v13, .int v14, .int v15, .ref m16, .ref m17, .ref m18, .ref m19, .ref m20, .ref m21, .ref m22, .ref m23, .int v24, .ref m25, .ref m26, .ref m27, .ref m28, .ref m29, .int v30, .ref m31, .ref m32, .ref m33, .int v34, .int v35, .int v36, .ref m37, .ref m38, .ref m39, .ref m40, .long v41])), (m20, .inl (k 0, 120, .inl f20)), (m26, .inl (k 0, 8, .inl f26))] sz [.ref mo, .int p0]) (va_Qi (fun (r : Int32) (_ : Unit) => True) (fun (_ : Unit) tZ => Bw D k (va_A [(mo, .inr (12, [.int v0, .ref m1, .ref m2, .ref m3, .ref m4, .ref m5, .int v6, .int v7, .int v8, .int v9, .int v10, .long v11, .int v12, .int v13, .int v14, .int v15, .ref m16, .ref m17, .ref m18, .ref m19, .ref m20, .ref m21, .ref m22, .ref m23, .int v24, .ref m25, .ref m26, .ref m27, .ref m28, .ref m29, .int v30, .ref m31, .ref m32, .ref m33, .int v34, .int v35, .int v36, .ref m37, .ref m38, .ref m39, .ref m40, .long v41])), (m20, .inl (k 0, 120, .inl f20)), (m26, .inl (k 0, 8, .inl f26))] sz) [(mo, .inr (12, [.int v0, .ref m1, .ref m2, .ref m3, .ref m4, .ref m5, .int v6, .int v7, .int v8, .int v9, .int v10, .long v11, .int v12, .int v13, .int v14, .int v15, .ref m16, .ref m17, .ref m18, .ref m19, .ref m20, .ref m21, .ref m22, .ref m23, .int v24, .ref m25, .ref m26, .ref m27, .ref m28, .ref m29, .int v30, .ref m31, .ref m32, .ref m33, .int v34, .int v35, .int v36, .ref m37, .ref m38, .ref m39, .ref m40, .long v41])), (m20, .inl (k 0, 120, .inl f20)), (m26, .inl (k 0, 8, .inl f26))] tZ) (va_A [(mo, .inr (12, [.int v0, .ref m1, .ref m2, .ref m3, .ref m4, .ref m5, .int v6, .int v7, .int v8, .int v9, .int v10, .long v11, .int v12, .int v13, .int v14, .int v15, .ref m16, .ref m17, .ref m18, .ref m19, .ref m20, .ref m21, .ref m22, .ref m23, .int v24, .ref m25, .ref m26, .ref m27, .ref m28, .ref m29, .int v30, .ref m31, .ref m32, .ref m33, .int v34, .int v35, .int v36, .ref m37, .ref m38, .ref m39, .ref m40, .long v41])), (m20, .inl (k 0, 120, .inl f20)), (m26, .inl (k 0, 8, .inl f26))] sz)) 0 0 (va_A [(mo, .inr (12, [.int v0, .ref m1, .ref m2, .ref m3, .ref m4, .ref m5, .int v6, .int v7, .int v8, .int v9, .int v10, .long v11, .int v12, .int v13, .int v14, .int v15, .ref m16, .ref m17, .ref m18, .ref m19, .ref m20, .ref m21, .ref m22, .ref m23, .int v24, .ref m25, .ref m26, .ref m27, .ref m28, .ref m29, .int v30, .ref m31, .ref m32, .ref m33, .int v34, .int v35, .int v36, .ref m37, .ref m38, .ref m39, .ref m40, .long v41])), (m20, .inl (k 0, 120, .inl f20)), (m26, .inl (k 0, 8, .inl f26))] sz) := by
  refine Met.ofW (cc := cX12_gladOf) (maxL := 4) (ret := (some .int)) (by decide +kernel) rfl ?_
  intro p e s m args below meth c s₁ B hml hv
  obtain ⟨rfl, hsz, hP, hK, hD0, hN⟩ := hv
  have hx := B.exec
  have hb := B.bytes
  have hr := B.returns
  have hts : ∀ w ∈ TT, w.before _ s = true := fun w h => atoms_spec (ws := ww yX12_gladOf cX12_gladOf 4 (some .int)) B.pre w (List.mem_cons_of_mem _ h)
  have hown : s.vm.findClass RX12 = some m.cls := findClass_of_methodNamed B.named
  have hlocks := B.notSynchronized
  subst hsz
  have hD := hD0.self (sz := s.heap.size)
  generalize hAe : va_A [(mo, .inr (12, [.int v0, .ref m1, .ref m2, .ref m3, .ref m4, .ref m5, .int v6, .int v7, .int v8, .int v9, .int v10, .long v11, .int v12, .int v13, .int v14, .int v15, .ref m16, .ref m17, .ref m18, .ref m19, .ref m20, .ref m21, .ref m22, .ref m23, .int v24, .ref m25, .ref m26, .ref m27, .ref m28, .ref m29, .int v30, .ref m31, .ref m32, .ref m33, .int v34, .int v35, .int v36, .ref m37, .ref m38, .ref m39, .ref m40, .long v41])), (m20, .inl (k 0, 120, .inl f20)), (m26, .inl (k 0, 8, .inl f26))] s.heap.size = A at hD ⊢
  have hA : ∀ q : Nat, s.heap.size ≤ q → A q := fun q h => by rw [← hAe]; exact Or.inr h
  have hS : va_S A s.heap s.heap [] := va_S.rf
  have hl := lv_entry ([.ref mo, .int p0]) (n := 4) (Nat.le_of_ble_eq_true rfl)
  rw [lg_entry_eq]
  generalize (lg_sl ([.ref mo, .int p0]) ++ List.replicate (4 - (lg_sl ([.ref mo, .int p0])).length) Slot.unset).toArray = ls at hl ⊢
  have hl : lv_has ls 4 [(0, .ref mo), (1, .int p0)] := hl
  refine lv_aload_n hx hb dX12_gladOf_0 rfl (lv_at hl 0 rfl) ?_
  refine va_get (D := D) (ci := 12) (v := .ref m26) (C := RX12) (T := TX12) (N := 42) hx hb hts iT_X12 hown hK hP 0 rfl rfl 26 (by decide) (hts _ tw_6_79) (fun _ h9 => h9) rfl dX12_gladOf_1 ?_
  refine lv_aload_n hx hb dX12_gladOf_4 rfl (lv_at hl 0 rfl) ?_
  refine va_get (D := D) (ci := 12) (v := .ref m20) (C := RX12) (T := TX12) (N := 42) hx hb hts iT_X12 hown hK hP 0 rfl rfl 20 (by decide) (hts _ tw_6_73) (fun _ h9 => h9) rfl dX12_gladOf_5 ?_
  refine lv_iconst (v := 4) hx hb dX12_gladOf_8 (by decide) ?_
  refine lv_iload_n hx hb dX12_gladOf_9 rfl (lv_at hl 1 rfl) ?_
  refine lv_imul hx hb dX12_gladOf_10 ?_
  refine lv_topi (fun x_1 ex_1 => ?_)
  have zx_1 : x_1.toInt = 4 * p0.toInt := by rw [ex_1]; exact z_mul rfl rfl (by omega) (by omega)
  refine va_iald hx hb hK hP 1 0 rfl rfl (z_in (by omega) (by omega)) dX12_gladOf_11 ?_
  refine lv_topi (fun x_2 ex_2 => ?_)
  have zx_2r0 : 0 ≤ x_2.toInt ∧ x_2.toInt ≤ 7 := by rw [ex_2]; exact PR.ld hp_f20_0 (by omega) (by omega) (by omega)
  refine va_iald hx hb hK hP 2 0 rfl rfl (z_in (by omega) (by omega)) dX12_gladOf_12 ?_
  refine lv_topi (fun x_3 ex_3 => ?_)
  have zx_3r0 : 0 ≤ x_3.toInt ∧ x_3.toInt ≤ 100000 := by rw [ex_3]; exact PR.ld hp_f26_0 (by omega) (by omega) (by omega)
  refine lv_istore_n (lv' := [(2, .int x_3), (0, .ref mo), (1, .int p0)]) hx hb dX12_gladOf_13 rfl hl (by decide) rfl (fun ls hl => ?_)
  refine lv_iload_n hx hb dX12_gladOf_14 rfl (lv_at hl 0 rfl) ?_
  refine lv_ldc (v := 100000) hx hb hown (hts _ tw_7_5) dX12_gladOf_15 ?_
  refine lv_icmp_lt (tgt := 22) hx hb dX12_gladOf_17 (by decide) (fun h_4 => ?_) (fun h_4 => ?_)
  · skip
    have zh_4 : x_3.toInt < 100000 := z_lt h_4
    refine lv_iload_n hx hb dX12_gladOf_22 rfl (lv_at hl 0 rfl) ?_
    refine lv_aload_n hx hb dX12_gladOf_23 rfl (lv_at hl 1 rfl) ?_
    refine va_get (D := D) (ci := 12) (v := .ref m20) (C := RX12) (T := TX12) (N := 42) hx hb hts iT_X12 hown hK hP 0 rfl rfl 20 (by decide) (hts _ tw_6_73) (fun _ h9 => h9) rfl dX12_gladOf_24 ?_
    refine lv_iconst (v := 4) hx hb dX12_gladOf_27 (by decide) ?_
    refine lv_iload_n hx hb dX12_gladOf_28 rfl (lv_at hl 2 rfl) ?_
    refine lv_imul hx hb dX12_gladOf_29 ?_
    refine lv_topi (fun x_5 ex_5 => ?_)
    obtain rfl : x_1 = x_5 := ex_1.trans ex_5.symm
    refine lv_iconst (v := 1) hx hb dX12_gladOf_30 (by decide) ?_
    refine lv_iadd hx hb dX12_gladOf_31 ?_
    refine lv_topi (fun x_6 ex_6 => ?_)
    have zx_6 : x_6.toInt = x_1.toInt + 1 := by rw [ex_6]; exact z_add rfl rfl (by omega) (by omega)
    refine va_iald hx hb hK hP 1 0 rfl rfl (z_in (by omega) (by omega)) dX12_gladOf_32 ?_
    refine lv_topi (fun x_7 ex_7 => ?_)
    refine lv_icmp_le (tgt := 51) hx hb dX12_gladOf_33 (by decide) (fun h_8 => ?_) (fun h_8 => ?_)
    · skip
      have zh_8 : x_3.toInt ≤ x_7.toInt := z_le h_8
      refine lv_aload_n hx hb dX12_gladOf_51 rfl (lv_at hl 1 rfl) ?_
      refine va_get (D := D) (ci := 12) (v := .ref m20) (C := RX12) (T := TX12) (N := 42) hx hb hts iT_X12 hown hK hP 0 rfl rfl 20 (by decide) (hts _ tw_6_73) (fun _ h9 => h9) rfl dX12_gladOf_52 ?_
      refine lv_iconst (v := 4) hx hb dX12_gladOf_55 (by decide) ?_
      refine lv_iload_n hx hb dX12_gladOf_56 rfl (lv_at hl 2 rfl) ?_
      refine lv_imul hx hb dX12_gladOf_57 ?_
      refine lv_topi (fun x_9 ex_9 => ?_)
      obtain rfl : x_1 = x_9 := ex_1.trans ex_9.symm
      refine lv_iconst (v := 1) hx hb dX12_gladOf_58 (by decide) ?_
      refine lv_iadd hx hb dX12_gladOf_59 ?_
      refine lv_topi (fun x_10 ex_10 => ?_)
      obtain rfl : x_6 = x_10 := ex_6.trans ex_10.symm
      refine va_iald hx hb hK hP 1 0 rfl rfl (z_in (by omega) (by omega)) dX12_gladOf_60 ?_
      refine lv_topi (fun x_11 ex_11 => ?_)
      obtain rfl : x_7 = x_11 := ex_7.trans ex_11.symm
      refine lv_iload_n hx hb dX12_gladOf_61 rfl (lv_at hl 0 rfl) ?_
      refine lv_isub hx hb dX12_gladOf_62 ?_
      refine lv_topi (fun x_12 ex_12 => ?_)
      have zrx_7 := z_rng x_7
      have zx_12 : x_12.toInt = x_7.toInt - x_3.toInt := by rw [ex_12]; exact z_sub rfl rfl (by omega) (by omega)
      refine lv_istore_n (lv' := [(3, .int x_12), (2, .int x_3), (0, .ref mo), (1, .int p0)]) hx hb dX12_gladOf_63 rfl hl (by decide) rfl (fun ls hl => ?_)
      refine lv_aload_n hx hb dX12_gladOf_64 rfl (lv_at hl 2 rfl) ?_
      refine va_get (D := D) (ci := 12) (v := .ref m20) (C := RX12) (T := TX12) (N := 42) hx hb hts iT_X12 hown hK hP 0 rfl rfl 20 (by decide) (hts _ tw_6_73) (fun _ h9 => h9) rfl dX12_gladOf_65 ?_
      refine lv_iconst (v := 4) hx hb dX12_gladOf_68 (by decide) ?_
      refine lv_iload_n hx hb dX12_gladOf_69 rfl (lv_at hl 3 rfl) ?_
      refine lv_imul hx hb dX12_gladOf_70 ?_
      refine lv_topi (fun x_13 ex_13 => ?_)
      obtain rfl : x_1 = x_13 := ex_1.trans ex_13.symm
      refine lv_iconst (v := 2) hx hb dX12_gladOf_71 (by decide) ?_
      refine lv_iadd hx hb dX12_gladOf_72 ?_
      refine lv_topi (fun x_14 ex_14 => ?_)
      have zx_14 : x_14.toInt = x_1.toInt + 2 := by rw [ex_14]; exact z_add rfl rfl (by omega) (by omega)
      refine va_iald hx hb hK hP 1 0 rfl rfl (z_in (by omega) (by omega)) dX12_gladOf_73 ?_
      refine lv_topi (fun x_15 ex_15 => ?_)
      refine lv_iload_n hx hb dX12_gladOf_74 rfl (lv_at hl 0 rfl) ?_
      refine lv_icmp_le (tgt := 93) hx hb dX12_gladOf_75 (by decide) (fun h_16 => ?_) (fun h_16 => ?_)
      · skip
        have zh_16 : x_15.toInt ≤ x_12.toInt := z_le h_16
        refine lv_iconst (v := 0) hx hb dX12_gladOf_93 (by decide) ?_
        have hP9 := hP.sub (ws' := [(mo, .inr (12, [.int v0, .ref m1, .ref m2, .ref m3, .ref m4, .ref m5, .int v6, .int v7, .int v8, .int v9, .int v10, .long v11, .int v12, .int v13, .int v14, .int v15, .ref m16, .ref m17, .ref m18, .ref m19, .ref m20, .ref m21, .ref m22, .ref m23, .int v24, .ref m25, .ref m26, .ref m27, .ref m28, .ref m29, .int v30, .ref m31, .ref m32, .ref m33, .int v34, .int v35, .int v36, .ref m37, .ref m38, .ref m39, .ref m40, .long v41])), (m20, .inl (k 0, 120, .inl f20)), (m26, .inl (k 0, 8, .inl f26))]) [0, 1, 2] rfl
        have hD9 := hD.sub (ws' := [(mo, .inr (12, [.int v0, .ref m1, .ref m2, .ref m3, .ref m4, .ref m5, .int v6, .int v7, .int v8, .int v9, .int v10, .long v11, .int v12, .int v13, .int v14, .int v15, .ref m16, .ref m17, .ref m18, .ref m19, .ref m20, .ref m21, .ref m22, .ref m23, .int v24, .ref m25, .ref m26, .ref m27, .ref m28, .ref m29, .int v30, .ref m31, .ref m32, .ref m33, .int v34, .int v35, .int v36, .ref m37, .ref m38, .ref m39, .ref m40, .long v41])), (m20, .inl (k 0, 120, .inl f20)), (m26, .inl (k 0, 8, .inl f26))]) [0, 1, 2] (by decide) rfl
        exact W.iret (v := 0) hx hb hr (fun tZ ht hW => ⟨⟨0, (), rfl, trivial, by rw [ht]; exact hP9, va_K.moved hW.alike hK, hD9⟩, hS.F ht⟩) hS.2.2 dX12_gladOf_94
      · skip
        have zh_16 : x_12.toInt < x_15.toInt := z_nle h_16
        refine lv_aload_n hx hb dX12_gladOf_78 rfl (lv_at hl 2 rfl) ?_
        refine va_get (D := D) (ci := 12) (v := .ref m20) (C := RX12) (T := TX12) (N := 42) hx hb hts iT_X12 hown hK hP 0 rfl rfl 20 (by decide) (hts _ tw_6_73) (fun _ h9 => h9) rfl dX12_gladOf_79 ?_
        refine lv_iconst (v := 4) hx hb dX12_gladOf_82 (by decide) ?_
        refine lv_iload_n hx hb dX12_gladOf_83 rfl (lv_at hl 3 rfl) ?_
        refine lv_imul hx hb dX12_gladOf_84 ?_
        refine lv_topi (fun x_17 ex_17 => ?_)
        obtain rfl : x_1 = x_17 := ex_1.trans ex_17.symm
        refine lv_iconst (v := 2) hx hb dX12_gladOf_85 (by decide) ?_
        refine lv_iadd hx hb dX12_gladOf_86 ?_
        refine lv_topi (fun x_18 ex_18 => ?_)
        obtain rfl : x_14 = x_18 := ex_14.trans ex_18.symm
        refine va_iald hx hb hK hP 1 0 rfl rfl (z_in (by omega) (by omega)) dX12_gladOf_87 ?_
        refine lv_topi (fun x_19 ex_19 => ?_)
        obtain rfl : x_15 = x_19 := ex_15.trans ex_19.symm
        refine lv_iload_n hx hb dX12_gladOf_88 rfl (lv_at hl 0 rfl) ?_
        refine lv_isub hx hb dX12_gladOf_89 ?_
        refine lv_topi (fun x_20 ex_20 => ?_)
        have zrx_15 := z_rng x_15
        refine lv_goto (tgt := 94) hx hb dX12_gladOf_90 (by decide) ?_
        have hP9 := hP.sub (ws' := [(mo, .inr (12, [.int v0, .ref m1, .ref m2, .ref m3, .ref m4, .ref m5, .int v6, .int v7, .int v8, .int v9, .int v10, .long v11, .int v12, .int v13, .int v14, .int v15, .ref m16, .ref m17, .ref m18, .ref m19, .ref m20, .ref m21, .ref m22, .ref m23, .int v24, .ref m25, .ref m26, .ref m27, .ref m28, .ref m29, .int v30, .ref m31, .ref m32, .ref m33, .int v34, .int v35, .int v36, .ref m37, .ref m38, .ref m39, .ref m40, .long v41])), (m20, .inl (k 0, 120, .inl f20)), (m26, .inl (k 0, 8, .inl f26))]) [0, 1, 2] rfl
        have hD9 := hD.sub (ws' := [(mo, .inr (12, [.int v0, .ref m1, .ref m2, .ref m3, .ref m4, .ref m5, .int v6, .int v7, .int v8, .int v9, .int v10, .long v11, .int v12, .int v13, .int v14, .int v15, .ref m16, .ref m17, .ref m18, .ref m19, .ref m20, .ref m21, .ref m22, .ref m23, .int v24, .ref m25, .ref m26, .ref m27, .ref m28, .ref m29, .int v30, .ref m31, .ref m32, .ref m33, .int v34, .int v35, .int v36, .ref m37, .ref m38, .ref m39, .ref m40, .long v41])), (m20, .inl (k 0, 120, .inl f20)), (m26, .inl (k 0, 8, .inl f26))]) [0, 1, 2] (by decide) rfl
        exact W.iret (v := x_20) hx hb hr (fun tZ ht hW => ⟨⟨x_20, (), rfl, trivial, by rw [ht]; exact hP9, va_K.moved hW.alike hK, hD9⟩, hS.F ht⟩) hS.2.2 dX12_gladOf_94
    · skip
      have zh_8 : x_7.toInt < x_3.toInt := z_nle h_8
      refine lv_iload_n hx hb dX12_gladOf_36 rfl (lv_at hl 0 rfl) ?_
      refine lv_aload_n hx hb dX12_gladOf_37 rfl (lv_at hl 1 rfl) ?_
      refine va_get (D := D) (ci := 12) (v := .ref m20) (C := RX12) (T := TX12) (N := 42) hx hb hts iT_X12 hown hK hP 0 rfl rfl 20 (by decide) (hts _ tw_6_73) (fun _ h9 => h9) rfl dX12_gladOf_38 ?_
      refine lv_iconst (v := 4) hx hb dX12_gladOf_41 (by decide) ?_
      refine lv_iload_n hx hb dX12_gladOf_42 rfl (lv_at hl 2 rfl) ?_
      refine lv_imul hx hb dX12_gladOf_43 ?_
      refine lv_topi (fun x_21 ex_21 => ?_)
      obtain rfl : x_1 = x_21 := ex_1.trans ex_21.symm
      refine lv_iconst (v := 1) hx hb dX12_gladOf_44 (by decide) ?_
      refine lv_iadd hx hb dX12_gladOf_45 ?_
      refine lv_topi (fun x_22 ex_22 => ?_)
      obtain rfl : x_6 = x_22 := ex_6.trans ex_22.symm
      refine va_iald hx hb hK hP 1 0 rfl rfl (z_in (by omega) (by omega)) dX12_gladOf_46 ?_
      refine lv_topi (fun x_23 ex_23 => ?_)
      obtain rfl : x_7 = x_23 := ex_7.trans ex_23.symm
      refine lv_isub hx hb dX12_gladOf_47 ?_
      refine lv_topi (fun x_24 ex_24 => ?_)
      have zrx_7 := z_rng x_7
      refine lv_goto (tgt := 63) hx hb dX12_gladOf_48 (by decide) ?_
      refine lv_istore_n (lv' := [(3, .int x_24), (2, .int x_3), (0, .ref mo), (1, .int p0)]) hx hb dX12_gladOf_63 rfl hl (by decide) rfl (fun ls hl => ?_)
      refine lv_aload_n hx hb dX12_gladOf_64 rfl (lv_at hl 2 rfl) ?_
      refine va_get (D := D) (ci := 12) (v := .ref m20) (C := RX12) (T := TX12) (N := 42) hx hb hts iT_X12 hown hK hP 0 rfl rfl 20 (by decide) (hts _ tw_6_73) (fun _ h9 => h9) rfl dX12_gladOf_65 ?_
      refine lv_iconst (v := 4) hx hb dX12_gladOf_68 (by decide) ?_
      refine lv_iload_n hx hb dX12_gladOf_69 rfl (lv_at hl 3 rfl) ?_
      refine lv_imul hx hb dX12_gladOf_70 ?_
      refine lv_topi (fun x_25 ex_25 => ?_)
      obtain rfl : x_1 = x_25 := ex_1.trans ex_25.symm
      refine lv_iconst (v := 2) hx hb dX12_gladOf_71 (by decide) ?_
      refine lv_iadd hx hb dX12_gladOf_72 ?_
      refine lv_topi (fun x_26 ex_26 => ?_)
      have zx_26 : x_26.toInt = x_1.toInt + 2 := by rw [ex_26]; exact z_add rfl rfl (by omega) (by omega)
      refine va_iald hx hb hK hP 1 0 rfl rfl (z_in (by omega) (by omega)) dX12_gladOf_73 ?_
      refine lv_topi (fun x_27 ex_27 => ?_)
      refine lv_iload_n hx hb dX12_gladOf_74 rfl (lv_at hl 0 rfl) ?_
      refine lv_icmp_le (tgt := 93) hx hb dX12_gladOf_75 (by decide) (fun h_28 => ?_) (fun h_28 => ?_)
      · skip
        have zh_28 : x_27.toInt ≤ x_24.toInt := z_le h_28
        refine lv_iconst (v := 0) hx hb dX12_gladOf_93 (by decide) ?_
        have hP9 := hP.sub (ws' := [(mo, .inr (12, [.int v0, .ref m1, .ref m2, .ref m3, .ref m4, .ref m5, .int v6, .int v7, .int v8, .int v9, .int v10, .long v11, .int v12, .int v13, .int v14, .int v15, .ref m16, .ref m17, .ref m18, .ref m19, .ref m20, .ref m21, .ref m22, .ref m23, .int v24, .ref m25, .ref m26, .ref m27, .ref m28, .ref m29, .int v30, .ref m31, .ref m32, .ref m33, .int v34, .int v35, .int v36, .ref m37, .ref m38, .ref m39, .ref m40, .long v41])), (m20, .inl (k 0, 120, .inl f20)), (m26, .inl (k 0, 8, .inl f26))]) [0, 1, 2] rfl
        have hD9 := hD.sub (ws' := [(mo, .inr (12, [.int v0, .ref m1, .ref m2, .ref m3, .ref m4, .ref m5, .int v6, .int v7, .int v8, .int v9, .int v10, .long v11, .int v12, .int v13, .int v14, .int v15, .ref m16, .ref m17, .ref m18, .ref m19, .ref m20, .ref m21, .ref m22, .ref m23, .int v24, .ref m25, .ref m26, .ref m27, .ref m28, .ref m29, .int v30, .ref m31, .ref m32, .ref m33, .int v34, .int v35, .int v36, .ref m37, .ref m38, .ref m39, .ref m40, .long v41])), (m20, .inl (k 0, 120, .inl f20)), (m26, .inl (k 0, 8, .inl f26))]) [0, 1, 2] (by decide) rfl
        exact W.iret (v := 0) hx hb hr (fun tZ ht hW => ⟨⟨0, (), rfl, trivial, by rw [ht]; exact hP9, va_K.moved hW.alike hK, hD9⟩, hS.F ht⟩) hS.2.2 dX12_gladOf_94
      · skip
        have zh_28 : x_24.toInt < x_27.toInt := z_nle h_28
        refine lv_aload_n hx hb dX12_gladOf_78 rfl (lv_at hl 2 rfl) ?_
        refine va_get (D := D) (ci := 12) (v := .ref m20) (C := RX12) (T := TX12) (N := 42) hx hb hts iT_X12 hown hK hP 0 rfl rfl 20 (by decide) (hts _ tw_6_73) (fun _ h9 => h9) rfl dX12_gladOf_79 ?_
        refine lv_iconst (v := 4) hx hb dX12_gladOf_82 (by decide) ?_
        refine lv_iload_n hx hb dX12_gladOf_83 rfl (lv_at hl 3 rfl) ?_
        refine lv_imul hx hb dX12_gladOf_84 ?_
        refine lv_topi (fun x_29 ex_29 => ?_)
        obtain rfl : x_1 = x_29 := ex_1.trans ex_29.symm
        refine lv_iconst (v := 2) hx hb dX12_gladOf_85 (by decide) ?_
        refine lv_iadd hx hb dX12_gladOf_86 ?_
        refine lv_topi (fun x_30 ex_30 => ?_)
        obtain rfl : x_26 = x_30 := ex_26.trans ex_30.symm
        refine va_iald hx hb hK hP 1 0 rfl rfl (z_in (by omega) (by omega)) dX12_gladOf_87 ?_
        refine lv_topi (fun x_31 ex_31 => ?_)
        obtain rfl : x_27 = x_31 := ex_27.trans ex_31.symm
        refine lv_iload_n hx hb dX12_gladOf_88 rfl (lv_at hl 0 rfl) ?_
        refine lv_isub hx hb dX12_gladOf_89 ?_
        refine lv_topi (fun x_32 ex_32 => ?_)
        have zrx_27 := z_rng x_27
        have zrx_24 := z_rng x_24
        refine lv_goto (tgt := 94) hx hb dX12_gladOf_90 (by decide) ?_
        have hP9 := hP.sub (ws' := [(mo, .inr (12, [.int v0, .ref m1, .ref m2, .ref m3, .ref m4, .ref m5, .int v6, .int v7, .int v8, .int v9, .int v10, .long v11, .int v12, .int v13, .int v14, .int v15, .ref m16, .ref m17, .ref m18, .ref m19, .ref m20, .ref m21, .ref m22, .ref m23, .int v24, .ref m25, .ref m26, .ref m27, .ref m28, .ref m29, .int v30, .ref m31, .ref m32, .ref m33, .int v34, .int v35, .int v36, .ref m37, .ref m38, .ref m39, .ref m40, .long v41])), (m20, .inl (k 0, 120, .inl f20)), (m26, .inl (k 0, 8, .inl f26))]) [0, 1, 2] rfl
        have hD9 := hD.sub (ws' := [(mo, .inr (12, [.int v0, .ref m1, .ref m2, .ref m3, .ref m4, .ref m5, .int v6, .int v7, .int v8, .int v9, .int v10, .long v11, .int v12, .int v13, .int v14, .int v15, .ref m16, .ref m17, .ref m18, .ref m19, .ref m20, .ref m21, .ref m22, .ref m23, .int v24, .ref m25, .ref m26, .ref m27, .ref m28, .ref m29, .int v30, .ref m31, .ref m32, .ref m33, .int v34, .int v35, .int v36, .ref m37, .ref m38, .ref m39, .ref m40, .long v41])), (m20, .inl (k 0, 120, .inl f20)), (m26, .inl (k 0, 8, .inl f26))]) [0, 1, 2] (by decide) rfl
        exact W.iret (v := x_32) hx hb hr (fun tZ ht hW => ⟨⟨x_32, (), rfl, trivial, by rw [ht]; exact hP9, va_K.moved hW.alike hK, hD9⟩, hS.F ht⟩) hS.2.2 dX12_gladOf_94
  · skip
    have zh_4 : 100000 ≤ x_3.toInt := z_nlt h_4
    refine lv_iconst (v := 0) hx hb dX12_gladOf_20 (by decide) ?_
    have hP9 := hP.sub (ws' := [(mo, .inr (12, [.int v0, .ref m1, .ref m2, .ref m3, .ref m4, .ref m5, .int v6, .int v7, .int v8, .int v9, .int v10, .long v11, .int v12, .int v13, .int v14, .int v15, .ref m16, .ref m17, .ref m18, .ref m19, .ref m20, .ref m21, .ref m22, .ref m23, .int v24, .ref m25, .ref m26, .ref m27, .ref m28, .ref m29, .int v30, .ref m31, .ref m32, .ref m33, .int v34, .int v35, .int v36, .ref m37, .ref m38, .ref m39, .ref m40, .long v41])), (m20, .inl (k 0, 120, .inl f20)), (m26, .inl (k 0, 8, .inl f26))]) [0, 1, 2] rfl
    have hD9 := hD.sub (ws' := [(mo, .inr (12, [.int v0, .ref m1, .ref m2, .ref m3, .ref m4, .ref m5, .int v6, .int v7, .int v8, .int v9, .int v10, .long v11, .int v12, .int v13, .int v14, .int v15, .ref m16, .ref m17, .ref m18, .ref m19, .ref m20, .ref m21, .ref m22, .ref m23, .int v24, .ref m25, .ref m26, .ref m27, .ref m28, .ref m29, .int v30, .ref m31, .ref m32, .ref m33, .int v34, .int v35, .int v36, .ref m37, .ref m38, .ref m39, .ref m40, .long v41])), (m20, .inl (k 0, 120, .inl f20)), (m26, .inl (k 0, 8, .inl f26))]) [0, 1, 2] (by decide) rfl
    exact W.iret (v := 0) hx hb hr (fun tZ ht hW => ⟨⟨0, (), rfl, trivial, by rw [ht]; exact hP9, va_K.moved hW.alike hK, hD9⟩, hS.F ht⟩) hS.2.2 dX12_gladOf_21
set_option maxHeartbeats 4000000 in
set_option maxRecDepth 100000 in
theorem c_X12_gladAll (l : Launch) (D : va_G) (k : Nat → ClassId) (mo : Nat) (v0 : Int32) (m1 : Nat) (m2 : Nat) (m3 : Nat) (m4 : Nat) (m5 : Nat) (v6 : Int32) (v7 : Int32) (v8 : Int32) (v9 : Int32) (v10 : Int32) (v11 : Int64) (v12 : Int32) (v13 : Int32) (v14 : Int32) (v15 : Int32) (m16 : Nat) (m17 : Nat) (m18 : Nat) (m19 : Nat) (m20 : Nat) (m21 : Nat) (m22 : Nat) (m23 : Nat) (v24 : Int32) (m25 : Nat) (m26 : Nat) (m27 : Nat) (m28 : Nat) (m29 : Nat) (v30 : Int32) (m31 : Nat) (m32 : Nat) (m33 : Nat) (v34 : Int32) (v35 : Int32) (v36 : Int32) (m37 : Nat) (m38 : Nat) (m39 : Nat) (m40 : Nat) (v41 : Int64) (f17 : Nat → Int32) (f20 : Nat → Int32) (f26 : Nat → Int32) (sz : Nat) (h_v6 : 0 ≤ v6.toInt ∧ v6.toInt ≤ 1000) (h_v24 : 0 ≤ v24.toInt ∧ v24.toInt ≤ 1023) (hp_f17_0 : PR 30 6 0 0 8 f17) (hp_f17_1 : PR 30 6 1 0 10 f17) (hp_f17_2 : PR 30 6 2 0 4 f17) (hp_f17_3 : PR 30 6 3 0 6 f17) (hp_f17_4 : PR 30 6 4 0 2 f17) (hp_f17_5 : PR 30 6 5 0 40 f17) (hp_f20_0 : PR 120 4 0 0 7 f20) (hp_f26_0 : PR 8 1 0 0 100000 f26) : Met l yX12_gladAll (ww yX12_gladAll cX12_gladAll 3 (some .int)) ({ frames := 1, cells := 0, slots := 0, locals := 23 }) (Pre0 D k [(mo, .inr (12, [.int v0, .ref m1, .ref m2, .ref m3, .ref m4, .ref m5, .int v6, .int v7, .int v8, .int v9, .int v10, .long v11, .int v12, .int v13, .int v14, .int v15, .ref m16, .ref m17, .ref m18, .ref m19, .ref m20, .ref m21, .ref m22, .ref m23, .int v24, .ref m25, .ref m26, .ref m27, .ref m28, .ref m29, .int v30, .ref m31, .ref m32, .ref m33, .int v34, .int v35, .int v36, .ref m37, .ref m38, .ref m39, .ref m40, .long v41])), (m17, .inl (k 0, 30, .inl f17)), (m20, .inl (k 0, 120, .inl f20)), (m26, .inl (k 0, 8, .inl f26))] sz [.ref mo]) (va_Qi (fun (r : Int32) (_ : Unit) => True) (fun (_ : Unit) tZ => Bw D k (va_A [(mo, .inr (12, [.int v0, .ref m1, .ref m2, .ref m3, .ref m4, .ref m5, .int v6, .int v7, .int v8, .int v9, .int v10, .long v11, .int v12, .int v13, .int v14, .int v15, .ref m16, .ref m17, .ref m18, .ref m19, .ref m20, .ref m21, .ref m22, .ref m23, .int v24, .ref m25, .ref m26, .ref m27, .ref m28, .ref m29, .int v30, .ref m31, .ref m32, .ref m33, .int v34, .int v35, .int v36, .ref m37, .ref m38, .ref m39, .ref m40, .long v41])), (m17, .inl (k 0, 30, .inl f17)), (m20, .inl (k 0, 120, .inl f20)), (m26, .inl (k 0, 8, .inl f26))] sz) [(mo, .inr (12, [.int v0, .ref m1, .ref m2, .ref m3, .ref m4, .ref m5, .int v6, .int v7, .int v8, .int v9, .int v10, .long v11, .int v12, .int v13, .int v14, .int v15, .ref m16, .ref m17, .ref m18, .ref m19, .ref m20, .ref m21, .ref m22, .ref m23, .int v24, .ref m25, .ref m26, .ref m27, .ref m28, .ref m29, .int v30, .ref m31, .ref m32, .ref m33, .int v34, .int v35, .int v36, .ref m37, .ref m38, .ref m39, .ref m40, .long v41])), (m17, .inl (k 0, 30, .inl f17)), (m20, .inl (k 0, 120, .inl f20)), (m26, .inl (k 0, 8, .inl f26))] tZ) (va_A [(mo, .inr (12, [.int v0, .ref m1, .ref m2, .ref m3, .ref m4, .ref m5, .int v6, .int v7, .int v8, .int v9, .int v10, .long v11, .int v12, .int v13, .int v14, .int v15, .ref m16, .ref m17, .ref m18, .ref m19, .ref m20, .ref m21, .ref m22, .ref m23, .int v24, .ref m25, .ref m26, .ref m27, .ref m28, .ref m29, .int v30, .ref m31, .ref m32, .ref m33, .int v34, .int v35, .int v36, .ref m37, .ref m38, .ref m39, .ref m40, .long v41])), (m17, .inl (k 0, 30, .inl f17)), (m20, .inl (k 0, 120, .inl f20)), (m26, .inl (k 0, 8, .inl f26))] sz)) 0 0 (va_A [(mo, .inr (12, [.int v0, .ref m1, .ref m2, .ref m3, .ref m4, .ref m5, .int v6, .int v7, .int v8, .int v9, .int v10, .long v11, .int v12, .int v13, .int v14, .int v15, .ref m16, .ref m17, .ref m18, .ref m19, .ref m20, .ref m21, .ref m22, .ref m23, .int v24, .ref m25, .ref m26, .ref m27, .ref m28, .ref m29, .int v30, .ref m31, .ref m32, .ref m33, .int v34, .int v35, .int v36, .ref m37, .ref m38, .ref m39, .ref m40, .long v41])), (m17, .inl (k 0, 30, .inl f17)), (m20, .inl (k 0, 120, .inl f20)), (m26, .inl (k 0, 8, .inl f26))] sz) := by
  refine Met.ofW (cc := cX12_gladAll) (maxL := 3) (ret := (some .int)) (by decide +kernel) rfl ?_
  intro p e s m args below meth c s₁ B hml hv
  obtain ⟨rfl, hsz, hP, hK, hD0, hN⟩ := hv
  have hx := B.exec
  have hb := B.bytes
  have hr := B.returns
  have hts : ∀ w ∈ TT, w.before _ s = true := fun w h => atoms_spec (ws := ww yX12_gladAll cX12_gladAll 3 (some .int)) B.pre w (List.mem_cons_of_mem _ h)
  have hown : s.vm.findClass RX12 = some m.cls := findClass_of_methodNamed B.named
  have hlocks := B.notSynchronized
  subst hsz
  have hD := hD0.self (sz := s.heap.size)
  generalize hAe : va_A [(mo, .inr (12, [.int v0, .ref m1, .ref m2, .ref m3, .ref m4, .ref m5, .int v6, .int v7, .int v8, .int v9, .int v10, .long v11, .int v12, .int v13, .int v14, .int v15, .ref m16, .ref m17, .ref m18, .ref m19, .ref m20, .ref m21, .ref m22, .ref m23, .int v24, .ref m25, .ref m26, .ref m27, .ref m28, .ref m29, .int v30, .ref m31, .ref m32, .ref m33, .int v34, .int v35, .int v36, .ref m37, .ref m38, .ref m39, .ref m40, .long v41])), (m17, .inl (k 0, 30, .inl f17)), (m20, .inl (k 0, 120, .inl f20)), (m26, .inl (k 0, 8, .inl f26))] s.heap.size = A at hD ⊢
  have hA : ∀ q : Nat, s.heap.size ≤ q → A q := fun q h => by rw [← hAe]; exact Or.inr h
  have hS : va_S A s.heap s.heap [] := va_S.rf
  have hl := lv_entry ([.ref mo]) (n := 3) (Nat.le_of_ble_eq_true rfl)
  rw [lg_entry_eq]
  generalize (lg_sl ([.ref mo]) ++ List.replicate (3 - (lg_sl ([.ref mo])).length) Slot.unset).toArray = ls at hl ⊢
  have hl : lv_has ls 3 [(0, .ref mo)] := hl
  refine lv_iconst (v := 0) hx hb dX12_gladAll_0 (by decide) ?_
  refine lv_istore_n (lv' := [(1, .int 0), (0, .ref mo)]) hx hb dX12_gladAll_1 rfl hl (by decide) rfl (fun ls hl => ?_)
  refine lv_iconst (v := 0) hx hb dX12_gladAll_2 (by decide) ?_
  refine lv_istore_n (lv' := [(2, .int 0), (1, .int 0), (0, .ref mo)]) hx hb dX12_gladAll_3 rfl hl (by decide) rfl (fun ls hl => ?_)
  refine loop_r (Wg := fun H locs ls => W p l e _ s m _ below meth c H locs _ _ _ (F0 m 4 ls [])) (fun n9 H locs ls => ∃ (L4l1 : Int32) (L4l2 : Int32), n9 = (6 - L4l2.toInt).toNat ∧ (0 ≤ L4l2.toInt ∧ L4l2.toInt ≤ 6) ∧ va_P D vwCl [(mo, .inr (12, [.int v0, .ref m1, .ref m2, .ref m3, .ref m4, .ref m5, .int v6, .int v7, .int v8, .int v9, .int v10, .long v11, .int v12, .int v13, .int v14, .int v15, .ref m16, .ref m17, .ref m18, .ref m19, .ref m20, .ref m21, .ref m22, .ref m23, .int v24, .ref m25, .ref m26, .ref m27, .ref m28, .ref m29, .int v30, .ref m31, .ref m32, .ref m33, .int v34, .int v35, .int v36, .ref m37, .ref m38, .ref m39, .ref m40, .long v41])), (m17, .inl (k 0, 30, .inl f17)), (m20, .inl (k 0, 120, .inl f20)), (m26, .inl (k 0, 8, .inl f26))] H ∧ va_D A [(mo, .inr (12, [.int v0, .ref m1, .ref m2, .ref m3, .ref m4, .ref m5, .int v6, .int v7, .int v8, .int v9, .int v10, .long v11, .int v12, .int v13, .int v14, .int v15, .ref m16, .ref m17, .ref m18, .ref m19, .ref m20, .ref m21, .ref m22, .ref m23, .int v24, .ref m25, .ref m26, .ref m27, .ref m28, .ref m29, .int v30, .ref m31, .ref m32, .ref m33, .int v34, .int v35, .int v36, .ref m37, .ref m38, .ref m39, .ref m40, .long v41])), (m17, .inl (k 0, 30, .inl f17)), (m20, .inl (k 0, 120, .inl f20)), (m26, .inl (k 0, 8, .inl f26))] ∧ va_S A s.heap H locs ∧ lv_has ls 3 [(0, .ref mo), (1, .int L4l1), (2, .int L4l2)]) (fun n9 H locs ls hI ih_1 => ?_) _ _ _ _ ⟨0, 0, rfl, (show 0 ≤ 0 ∧ 0 ≤ 6 from by omega), hP.sub (ws' := [(mo, .inr (12, [.int v0, .ref m1, .ref m2, .ref m3, .ref m4, .ref m5, .int v6, .int v7, .int v8, .int v9, .int v10, .long v11, .int v12, .int v13, .int v14, .int v15, .ref m16, .ref m17, .ref m18, .ref m19, .ref m20, .ref m21, .ref m22, .ref m23, .int v24, .ref m25, .ref m26, .ref m27, .ref m28, .ref m29, .int v30, .ref m31, .ref m32, .ref m33, .int v34, .int v35, .int v36, .ref m37, .ref m38, .ref m39, .ref m40, .long v41])), (m17, .inl (k 0, 30, .inl f17)), (m20, .inl (k 0, 120, .inl f20)), (m26, .inl (k 0, 8, .inl f26))]) [0, 1, 2, 3] rfl, hD.sub (ws' := [(mo, .inr (12, [.int v0, .ref m1, .ref m2, .ref m3, .ref m4, .ref m5, .int v6, .int v7, .int v8, .int v9, .int v10, .long v11, .int v12, .int v13, .int v14, .int v15, .ref m16, .ref m17, .ref m18, .ref m19, .ref m20, .ref m21, .ref m22, .ref m23, .int v24, .ref m25, .ref m26, .ref m27, .ref m28, .ref m29, .int v30, .ref m31, .ref m32, .ref m33, .int v34, .int v35, .int v36, .ref m37, .ref m38, .ref m39, .ref m40, .long v41])), (m17, .inl (k 0, 30, .inl f17)), (m20, .inl (k 0, 120, .inl f20)), (m26, .inl (k 0, 8, .inl f26))]) [0, 1, 2, 3] (by decide) rfl, hS, lv_sub hl [2, 1, 0] rfl⟩
  clear hP hD hS hl
  obtain ⟨L4l1, L4l2, en_2, zL4l2, hP, hD, hS, hl⟩ := hI
  refine lv_iload_n hx hb dX12_gladAll_4 rfl (lv_at hl 2 rfl) ?_
  refine lv_aload_n hx hb dX12_gladAll_5 rfl (lv_at hl 0 rfl) ?_
  refine va_get (D := D) (ci := 12) (v := .ref m17) (C := RX12) (T := TX12) (N := 42) hx hb hts iT_X12 hown hK hP 0 rfl rfl 17 (by decide) (hts _ tw_6_70) (fun _ h9 => h9) rfl dX12_gladAll_6 ?_
  refine lv_iconst (v := 3) hx hb dX12_gladAll_9 (by decide) ?_
  refine va_iald hx hb hK hP 1 0 rfl rfl (z_in (by decide) (by decide)) dX12_gladAll_10 ?_
  refine lv_topi (fun x_3 ex_3 => ?_)
  have zx_3r3 : 0 ≤ x_3.toInt ∧ x_3.toInt ≤ 6 := by rw [ex_3]; exact PR.ld hp_f17_3 (by decide) (by decide) (by decide)
  refine lv_icmp_ge (tgt := 28) hx hb dX12_gladAll_11 (by decide) (fun h_4 => ?_) (fun h_4 => ?_)
  · skip
    have zh_4 : x_3.toInt ≤ L4l2.toInt := z_le h_4
    refine lv_iload_n hx hb dX12_gladAll_28 rfl (lv_at hl 1 rfl) ?_
    have hP9 := hP.sub (ws' := [(mo, .inr (12, [.int v0, .ref m1, .ref m2, .ref m3, .ref m4, .ref m5, .int v6, .int v7, .int v8, .int v9, .int v10, .long v11, .int v12, .int v13, .int v14, .int v15, .ref m16, .ref m17, .ref m18, .ref m19, .ref m20, .ref m21, .ref m22, .ref m23, .int v24, .ref m25, .ref m26, .ref m27, .ref m28, .ref m29, .int v30, .ref m31, .ref m32, .ref m33, .int v34, .int v35, .int v36, .ref m37, .ref m38, .ref m39, .ref m40, .long v41])), (m17, .inl (k 0, 30, .inl f17)), (m20, .inl (k 0, 120, .inl f20)), (m26, .inl (k 0, 8, .inl f26))]) [0, 1, 2, 3] rfl
    have hD9 := hD.sub (ws' := [(mo, .inr (12, [.int v0, .ref m1, .ref m2, .ref m3, .ref m4, .ref m5, .int v6, .int v7, .int v8, .int v9, .int v10, .long v11, .int v12, .int v13, .int v14, .int v15, .ref m16, .ref m17, .ref m18, .ref m19, .ref m20, .ref m21, .ref m22, .ref m23, .int v24, .ref m25, .ref m26, .ref m27, .ref m28, .ref m29, .int v30, .ref m31, .ref m32, .ref m33, .int v34, .int v35, .int v36, .ref m37, .ref m38, .ref m39, .ref m40, .long v41])), (m17, .inl (k 0, 30, .inl f17)), (m20, .inl (k 0, 120, .inl f20)), (m26, .inl (k 0, 8, .inl f26))]) [0, 1, 2, 3] (by decide) rfl
    exact W.iret (v := L4l1) hx hb hr (fun tZ ht hW => ⟨⟨L4l1, (), rfl, trivial, by rw [ht]; exact hP9, va_K.moved hW.alike hK, hD9⟩, hS.F ht⟩) hS.2.2 dX12_gladAll_29
  · skip
    have zh_4 : L4l2.toInt < x_3.toInt := z_nle h_4
    refine lv_iload_n hx hb dX12_gladAll_14 rfl (lv_at hl 1 rfl) ?_
    refine lv_aload_n hx hb dX12_gladAll_15 rfl (lv_at hl 0 rfl) ?_
    refine lv_iload_n hx hb dX12_gladAll_16 rfl (lv_at hl 2 rfl) ?_
    have hPc := hP.sub (ws' := [(mo, .inr (12, [.int v0, .ref m1, .ref m2, .ref m3, .ref m4, .ref m5, .int v6, .int v7, .int v8, .int v9, .int v10, .long v11, .int v12, .int v13, .int v14, .int v15, .ref m16, .ref m17, .ref m18, .ref m19, .ref m20, .ref m21, .ref m22, .ref m23, .int v24, .ref m25, .ref m26, .ref m27, .ref m28, .ref m29, .int v30, .ref m31, .ref m32, .ref m33, .int v34, .int v35, .int v36, .ref m37, .ref m38, .ref m39, .ref m40, .long v41])), (m20, .inl (k 0, 120, .inl f20)), (m26, .inl (k 0, 8, .inl f26))]) [0, 2, 3] rfl
    have hDc := hD.sub (ws' := [(mo, .inr (12, [.int v0, .ref m1, .ref m2, .ref m3, .ref m4, .ref m5, .int v6, .int v7, .int v8, .int v9, .int v10, .long v11, .int v12, .int v13, .int v14, .int v15, .ref m16, .ref m17, .ref m18, .ref m19, .ref m20, .ref m21, .ref m22, .ref m23, .int v24, .ref m25, .ref m26, .ref m27, .ref m28, .ref m29, .int v30, .ref m31, .ref m32, .ref m33, .int v34, .int v35, .int v36, .ref m37, .ref m38, .ref m39, .ref m40, .long v41])), (m20, .inl (k 0, 120, .inl f20)), (m26, .inl (k 0, 8, .inl f26))]) [0, 2, 3] (by decide) rfl
    have hFc := va_free (wc := [(mo, .inr (12, [.int v0, .ref m1, .ref m2, .ref m3, .ref m4, .ref m5, .int v6, .int v7, .int v8, .int v9, .int v10, .long v11, .int v12, .int v13, .int v14, .int v15, .ref m16, .ref m17, .ref m18, .ref m19, .ref m20, .ref m21, .ref m22, .ref m23, .int v24, .ref m25, .ref m26, .ref m27, .ref m28, .ref m29, .int v30, .ref m31, .ref m32, .ref m33, .int v34, .int v35, .int v36, .ref m37, .ref m38, .ref m39, .ref m40, .long v41])), (m20, .inl (k 0, 120, .inl f20)), (m26, .inl (k 0, 8, .inl f26))]) hD hS hA [0, 2, 3] rfl
    refine va_calli (va_runV (C := RX12) (As := [.int L4l2]) (rest := [.int L4l1]) ⟨hx, hb, hml, hown, hts⟩ (c_X12_gladOf l D k mo L4l2 v0 m1 m2 m3 m4 m5 v6 v7 v8 v9 v10 v11 v12 v13 v14 v15 m16 m17 m18 m19 m20 m21 m22 m23 v24 m25 m26 m27 m28 m29 v30 m31 m32 m33 v34 v35 v36 m37 m38 m39 m40 v41 f20 f26 H.size (show 0 ≤ L4l2.toInt ∧ L4l2.toInt ≤ 5 from by omega) (show 0 ≤ v6.toInt ∧ v6.toInt ≤ 1000 from by omega) (show 0 ≤ v24.toInt ∧ v24.toInt ≤ 1023 from by omega) hp_f20_0 hp_f26_0) (cwV 1 hts (gV tw_8_9 tw_8_11 tw_p_76 tw_1_13 tw_8_12) rfl rfl rfl hdV_X12_gladOf ⟨Nat.le_of_ble_eq_true rfl, Nat.le_of_ble_eq_true rfl⟩) (cz_V hK hPc hDc hN (ci := 12) (q0 := 0) rfl rfl [.int L4l2]) rfl rfl hl.1 rfl (lv_room (Nat.le_of_ble_eq_true rfl)) dX12_gladAll_17 ⟨Nat.le_of_ble_eq_true rfl, Nat.le_of_ble_eq_true rfl⟩) hS (fun q _ h => hFc q h) hFc (fun r_5 uZ tZ H1 locs ht hvm hw hB hz1 hk1 hS => ?_)
    obtain ⟨hP1, hK1, hD1⟩ := hB
    rw [ht] at hP1
    obtain ⟨hP, hD⟩ := va_join (wr := [(m17, .inl (k 0, 30, .inl f17))]) (w1 := [(mo, .inr (12, [.int v0, .ref m1, .ref m2, .ref m3, .ref m4, .ref m5, .int v6, .int v7, .int v8, .int v9, .int v10, .long v11, .int v12, .int v13, .int v14, .int v15, .ref m16, .ref m17, .ref m18, .ref m19, .ref m20, .ref m21, .ref m22, .ref m23, .int v24, .ref m25, .ref m26, .ref m27, .ref m28, .ref m29, .int v30, .ref m31, .ref m32, .ref m33, .int v34, .int v35, .int v36, .ref m37, .ref m38, .ref m39, .ref m40, .long v41])), (m20, .inl (k 0, 120, .inl f20)), (m26, .inl (k 0, 8, .inl f26))]) hP hD [0, 2, 3] [1] rfl rfl (by decide) (by decide) hk1 hFc hP1 hD1
    clear hK1 hP1 hD1 hPc hDc hFc
    clear hk1 hz1 ht hvm
    have hP : va_P D vwCl [(m17, .inl (k 0, 30, .inl f17)), (mo, .inr (12, [.int v0, .ref m1, .ref m2, .ref m3, .ref m4, .ref m5, .int v6, .int v7, .int v8, .int v9, .int v10, .long v11, .int v12, .int v13, .int v14, .int v15, .ref m16, .ref m17, .ref m18, .ref m19, .ref m20, .ref m21, .ref m22, .ref m23, .int v24, .ref m25, .ref m26, .ref m27, .ref m28, .ref m29, .int v30, .ref m31, .ref m32, .ref m33, .int v34, .int v35, .int v36, .ref m37, .ref m38, .ref m39, .ref m40, .long v41])), (m20, .inl (k 0, 120, .inl f20)), (m26, .inl (k 0, 8, .inl f26))] H1 := hP
    have hD : va_D A [(m17, .inl (k 0, 30, .inl f17)), (mo, .inr (12, [.int v0, .ref m1, .ref m2, .ref m3, .ref m4, .ref m5, .int v6, .int v7, .int v8, .int v9, .int v10, .long v11, .int v12, .int v13, .int v14, .int v15, .ref m16, .ref m17, .ref m18, .ref m19, .ref m20, .ref m21, .ref m22, .ref m23, .int v24, .ref m25, .ref m26, .ref m27, .ref m28, .ref m29, .int v30, .ref m31, .ref m32, .ref m33, .int v34, .int v35, .int v36, .ref m37, .ref m38, .ref m39, .ref m40, .long v41])), (m20, .inl (k 0, 120, .inl f20)), (m26, .inl (k 0, 8, .inl f26))] := hD
    generalize H1 = H at hP hS ⊢
    clear hw
    refine lv_iadd hx hb dX12_gladAll_20 ?_
    refine lv_topi (fun x_7 ex_7 => ?_)
    have zrL4l1 := z_rng L4l1
    have zrr_5 := z_rng r_5
    refine lv_istore_n (lv' := [(1, .int x_7), (0, .ref mo), (2, .int L4l2)]) hx hb dX12_gladAll_21 rfl hl (by decide) rfl (fun ls hl => ?_)
    obtain ⟨x_8, ex_8⟩ : ∃ y : Int32, y = L4l2 + 1 := ⟨_, rfl⟩
    have zx_8 : x_8.toInt = L4l2.toInt + 1 := by rw [ex_8]; exact z_add rfl rfl (by omega) (by omega)
    refine lv_iinc (v := x_8) (lv' := [(2, .int x_8), (1, .int x_7), (0, .ref mo)]) hx hb dX12_gladAll_22 hl (k := 2) rfl (by rw [ex_8]; rfl) (by decide) rfl (fun ls hl => ?_)
    refine lv_goto (tgt := 4) hx hb dX12_gladAll_25 (by decide) ?_
    exact ih_1 _ _ _ _ (by omega) ⟨x_7, x_8, rfl, (show 0 ≤ x_8.toInt ∧ x_8.toInt ≤ 6 from by omega), hP.sub (ws' := [(mo, .inr (12, [.int v0, .ref m1, .ref m2, .ref m3, .ref m4, .ref m5, .int v6, .int v7, .int v8, .int v9, .int v10, .long v11, .int v12, .int v13, .int v14, .int v15, .ref m16, .ref m17, .ref m18, .ref m19, .ref m20, .ref m21, .ref m22, .ref m23, .int v24, .ref m25, .ref m26, .ref m27, .ref m28, .ref m29, .int v30, .ref m31, .ref m32, .ref m33, .int v34, .int v35, .int v36, .ref m37, .ref m38, .ref m39, .ref m40, .long v41])), (m17, .inl (k 0, 30, .inl f17)), (m20, .inl (k 0, 120, .inl f20)), (m26, .inl (k 0, 8, .inl f26))]) [1, 0, 2, 3] rfl, hD.sub (ws' := [(mo, .inr (12, [.int v0, .ref m1, .ref m2, .ref m3, .ref m4, .ref m5, .int v6, .int v7, .int v8, .int v9, .int v10, .long v11, .int v12, .int v13, .int v14, .int v15, .ref m16, .ref m17, .ref m18, .ref m19, .ref m20, .ref m21, .ref m22, .ref m23, .int v24, .ref m25, .ref m26, .ref m27, .ref m28, .ref m29, .int v30, .ref m31, .ref m32, .ref m33, .int v34, .int v35, .int v36, .ref m37, .ref m38, .ref m39, .ref m40, .long v41])), (m17, .inl (k 0, 30, .inl f17)), (m20, .inl (k 0, 120, .inl f20)), (m26, .inl (k 0, 8, .inl f26))]) [1, 0, 2, 3] (by decide) rfl, hS, lv_sub hl [2, 1, 0] rfl⟩
set_option maxHeartbeats 4000000 in
set_option maxRecDepth 100000 in
theorem c_X12_isPlace (l : Launch) (D : va_G) (k : Nat → ClassId) (mo : Nat) (p0 : Int32) (v0 : Int32) (m1 : Nat) (m2 : Nat) (m3 : Nat) (m4 : Nat) (m5 : Nat) (v6 : Int32) (v7 : Int32) (v8 : Int32) (v9 : Int32) (v10 : Int32) (v11 : Int64) (v12 : Int32) (v13 : Int32) (v14 : Int32) (v15 : Int32) (m16 : Nat) (m17 : Nat) (m18 : Nat) (m19 : Nat) (m20 : Nat) (m21 : Nat) (m22 : Nat) (m23 : Nat) (v24 : Int32) (m25 : Nat) (m26 : Nat) (m27 : Nat) (m28 : Nat) (m29 : Nat) (v30 : Int32) (m31 : Nat) (m32 : Nat) (m33 : Nat) (v34 : Int32) (v35 : Int32) (v36 : Int32) (m37 : Nat) (m38 : Nat) (m39 : Nat) (m40 : Nat) (v41 : Int64) (f16 : Nat → Int32) (sz : Nat) (h_v6 : 0 ≤ v6.toInt ∧ v6.toInt ≤ 1000) (h_v24 : 0 ≤ v24.toInt ∧ v24.toInt ≤ 1023) : Met l yX12_isPlace (ww yX12_isPlace cX12_isPlace 2 (some .boolean)) ({ frames := 1, cells := 0, slots := 0, locals := 25 }) (Pre0 D k [(mo, .inr (12, [.int v0, .ref m1, .ref m2, .ref m3, .ref m4, .ref m5, .int v6, .int v7, .int v8, .int v9, .int v10, .long v11, .int v12, .int v13, .int v14, .int v15, .ref m16, .ref m17, .ref m18, .ref m19, .ref m20, .ref m21, .ref m22, .ref m23, .int v24, .ref m25, .ref m26, .ref m27, .ref m28, .ref m29, .int v30, .ref m31, .ref m32, .ref m33, .int v34, .int v35, .int v36, .ref m37, .ref m38, .ref m39, .ref m40, .long v41])), (m16, .inl (k 0, 5, .inl f16))] sz [.ref mo, .int p0]) (va_Qi (fun (r : Int32) (_ : Unit) => (0 ≤ r.toInt ∧ r.toInt ≤ 1) ∧ ((r.toInt = 1 ∧ 1 ≤ p0.toInt ∧ p0.toInt ≤ 4) ∨ r.toInt = 0)) (fun (_ : Unit) tZ => Bw D k (va_A [(mo, .inr (12, [.int v0, .ref m1, .ref m2, .ref m3, .ref m4, .ref m5, .int v6, .int v7, .int v8, .int v9, .int v10, .long v11, .int v12, .int v13, .int v14, .int v15, .ref m16, .ref m17, .ref m18, .ref m19, .ref m20, .ref m21, .ref m22, .ref m23, .int v24, .ref m25, .ref m26, .ref m27, .ref m28, .ref m29, .int v30, .ref m31, .ref m32, .ref m33, .int v34, .int v35, .int v36, .ref m37, .ref m38, .ref m39, .ref m40, .long v41])), (m16, .inl (k 0, 5, .inl f16))] sz) [(mo, .inr (12, [.int v0, .ref m1, .ref m2, .ref m3, .ref m4, .ref m5, .int v6, .int v7, .int v8, .int v9, .int v10, .long v11, .int v12, .int v13, .int v14, .int v15, .ref m16, .ref m17, .ref m18, .ref m19, .ref m20, .ref m21, .ref m22, .ref m23, .int v24, .ref m25, .ref m26, .ref m27, .ref m28, .ref m29, .int v30, .ref m31, .ref m32, .ref m33, .int v34, .int v35, .int v36, .ref m37, .ref m38, .ref m39, .ref m40, .long v41])), (m16, .inl (k 0, 5, .inl f16))] tZ) (va_A [(mo, .inr (12, [.int v0, .ref m1, .ref m2, .ref m3, .ref m4, .ref m5, .int v6, .int v7, .int v8, .int v9, .int v10, .long v11, .int v12, .int v13, .int v14, .int v15, .ref m16, .ref m17, .ref m18, .ref m19, .ref m20, .ref m21, .ref m22, .ref m23, .int v24, .ref m25, .ref m26, .ref m27, .ref m28, .ref m29, .int v30, .ref m31, .ref m32, .ref m33, .int v34, .int v35, .int v36, .ref m37, .ref m38, .ref m39, .ref m40, .long v41])), (m16, .inl (k 0, 5, .inl f16))] sz)) 0 0 (va_A [(mo, .inr (12, [.int v0, .ref m1, .ref m2, .ref m3, .ref m4, .ref m5, .int v6, .int v7, .int v8, .int v9, .int v10, .long v11, .int v12, .int v13, .int v14, .int v15, .ref m16, .ref m17, .ref m18, .ref m19, .ref m20, .ref m21, .ref m22, .ref m23, .int v24, .ref m25, .ref m26, .ref m27, .ref m28, .ref m29, .int v30, .ref m31, .ref m32, .ref m33, .int v34, .int v35, .int v36, .ref m37, .ref m38, .ref m39, .ref m40, .long v41])), (m16, .inl (k 0, 5, .inl f16))] sz) := by
  refine Met.ofW (cc := cX12_isPlace) (maxL := 2) (ret := (some .boolean)) (by decide +kernel) rfl ?_
  intro p e s m args below meth c s₁ B hml hv
  obtain ⟨rfl, hsz, hP, hK, hD0, hN⟩ := hv
  have hx := B.exec
  have hb := B.bytes
  have hr := B.returns
  have hts : ∀ w ∈ TT, w.before _ s = true := fun w h => atoms_spec (ws := ww yX12_isPlace cX12_isPlace 2 (some .boolean)) B.pre w (List.mem_cons_of_mem _ h)
  have hown : s.vm.findClass RX12 = some m.cls := findClass_of_methodNamed B.named
  have hlocks := B.notSynchronized
  subst hsz
  have hD := hD0.self (sz := s.heap.size)
  generalize hAe : va_A [(mo, .inr (12, [.int v0, .ref m1, .ref m2, .ref m3, .ref m4, .ref m5, .int v6, .int v7, .int v8, .int v9, .int v10, .long v11, .int v12, .int v13, .int v14, .int v15, .ref m16, .ref m17, .ref m18, .ref m19, .ref m20, .ref m21, .ref m22, .ref m23, .int v24, .ref m25, .ref m26, .ref m27, .ref m28, .ref m29, .int v30, .ref m31, .ref m32, .ref m33, .int v34, .int v35, .int v36, .ref m37, .ref m38, .ref m39, .ref m40, .long v41])), (m16, .inl (k 0, 5, .inl f16))] s.heap.size = A at hD ⊢
  have hA : ∀ q : Nat, s.heap.size ≤ q → A q := fun q h => by rw [← hAe]; exact Or.inr h
  have hS : va_S A s.heap s.heap [] := va_S.rf
  have hl := lv_entry ([.ref mo, .int p0]) (n := 2) (Nat.le_of_ble_eq_true rfl)
  rw [lg_entry_eq]
  generalize (lg_sl ([.ref mo, .int p0]) ++ List.replicate (2 - (lg_sl ([.ref mo, .int p0])).length) Slot.unset).toArray = ls at hl ⊢
  have hl : lv_has ls 2 [(0, .ref mo), (1, .int p0)] := hl
  refine lv_aload_n hx hb dX12_isPlace_0 rfl (lv_at hl 0 rfl) ?_
  have hPc := hP.sub (ws' := [(mo, .inr (12, [.int v0, .ref m1, .ref m2, .ref m3, .ref m4, .ref m5, .int v6, .int v7, .int v8, .int v9, .int v10, .long v11, .int v12, .int v13, .int v14, .int v15, .ref m16, .ref m17, .ref m18, .ref m19, .ref m20, .ref m21, .ref m22, .ref m23, .int v24, .ref m25, .ref m26, .ref m27, .ref m28, .ref m29, .int v30, .ref m31, .ref m32, .ref m33, .int v34, .int v35, .int v36, .ref m37, .ref m38, .ref m39, .ref m40, .long v41])), (m16, .inl (k 0, 5, .inl f16))]) [0, 1] rfl
  have hDc := hD.sub (ws' := [(mo, .inr (12, [.int v0, .ref m1, .ref m2, .ref m3, .ref m4, .ref m5, .int v6, .int v7, .int v8, .int v9, .int v10, .long v11, .int v12, .int v13, .int v14, .int v15, .ref m16, .ref m17, .ref m18, .ref m19, .ref m20, .ref m21, .ref m22, .ref m23, .int v24, .ref m25, .ref m26, .ref m27, .ref m28, .ref m29, .int v30, .ref m31, .ref m32, .ref m33, .int v34, .int v35, .int v36, .ref m37, .ref m38, .ref m39, .ref m40, .long v41])), (m16, .inl (k 0, 5, .inl f16))]) [0, 1] (by decide) rfl
  have hFc := va_free (wc := [(mo, .inr (12, [.int v0, .ref m1, .ref m2, .ref m3, .ref m4, .ref m5, .int v6, .int v7, .int v8, .int v9, .int v10, .long v11, .int v12, .int v13, .int v14, .int v15, .ref m16, .ref m17, .ref m18, .ref m19, .ref m20, .ref m21, .ref m22, .ref m23, .int v24, .ref m25, .ref m26, .ref m27, .ref m28, .ref m29, .int v30, .ref m31, .ref m32, .ref m33, .int v34, .int v35, .int v36, .ref m37, .ref m38, .ref m39, .ref m40, .long v41])), (m16, .inl (k 0, 5, .inl f16))]) hD hS hA [0, 1] rfl
  refine va_calli (va_runV (C := RX12) (As := []) (rest := []) ⟨hx, hb, hml, hown, hts⟩ (c_X12_isTown l D k mo v0 m1 m2 m3 m4 m5 v6 v7 v8 v9 v10 v11 v12 v13 v14 v15 m16 m17 m18 m19 m20 m21 m22 m23 v24 m25 m26 m27 m28 m29 v30 m31 m32 m33 v34 v35 v36 m37 m38 m39 m40 v41 f16 s.heap.size (show 0 ≤ v6.toInt ∧ v6.toInt ≤ 1000 from by omega) (show 0 ≤ v24.toInt ∧ v24.toInt ≤ 1023 from by omega)) (cwV 0 hts (gV tw_7_181 tw_7_183 tw_p_71 tw_1_13 tw_7_184) rfl rfl rfl hdV_X12_isTown ⟨Nat.le_of_ble_eq_true rfl, Nat.le_of_ble_eq_true rfl⟩) (cz_V hK hPc hDc hN (ci := 12) (q0 := 0) rfl rfl []) rfl rfl hl.1 rfl (lv_room (Nat.le_of_ble_eq_true rfl)) dX12_isPlace_1 ⟨Nat.le_of_ble_eq_true rfl, Nat.le_of_ble_eq_true rfl⟩) hS (fun q _ h => hFc q h) hFc (fun r_1 uZ tZ H1 locs ht hvm hw hB hz1 hk1 hS => ?_)
  obtain ⟨hP1, hK1, hD1⟩ := hB
  rw [ht] at hP1
  obtain ⟨hP, hD⟩ := va_join (wr := []) (w1 := [(mo, .inr (12, [.int v0, .ref m1, .ref m2, .ref m3, .ref m4, .ref m5, .int v6, .int v7, .int v8, .int v9, .int v10, .long v11, .int v12, .int v13, .int v14, .int v15, .ref m16, .ref m17, .ref m18, .ref m19, .ref m20, .ref m21, .ref m22, .ref m23, .int v24, .ref m25, .ref m26, .ref m27, .ref m28, .ref m29, .int v30, .ref m31, .ref m32, .ref m33, .int v34, .int v35, .int v36, .ref m37, .ref m38, .ref m39, .ref m40, .long v41])), (m16, .inl (k 0, 5, .inl f16))]) hP hD [0, 1] [] rfl rfl (by decide) (by decide) hk1 hFc hP1 hD1
  clear hK1 hP1 hD1 hPc hDc hFc
  clear hk1 hz1 ht hvm
  have hP : va_P D vwCl [(mo, .inr (12, [.int v0, .ref m1, .ref m2, .ref m3, .ref m4, .ref m5, .int v6, .int v7, .int v8, .int v9, .int v10, .long v11, .int v12, .int v13, .int v14, .int v15, .ref m16, .ref m17, .ref m18, .ref m19, .ref m20, .ref m21, .ref m22, .ref m23, .int v24, .ref m25, .ref m26, .ref m27, .ref m28, .ref m29, .int v30, .ref m31, .ref m32, .ref m33, .int v34, .int v35, .int v36, .ref m37, .ref m38, .ref m39, .ref m40, .long v41])), (m16, .inl (k 0, 5, .inl f16))] H1 := hP
  have hD : va_D A [(mo, .inr (12, [.int v0, .ref m1, .ref m2, .ref m3, .ref m4, .ref m5, .int v6, .int v7, .int v8, .int v9, .int v10, .long v11, .int v12, .int v13, .int v14, .int v15, .ref m16, .ref m17, .ref m18, .ref m19, .ref m20, .ref m21, .ref m22, .ref m23, .int v24, .ref m25, .ref m26, .ref m27, .ref m28, .ref m29, .int v30, .ref m31, .ref m32, .ref m33, .int v34, .int v35, .int v36, .ref m37, .ref m38, .ref m39, .ref m40, .long v41])), (m16, .inl (k 0, 5, .inl f16))] := hD
  generalize H1 = H at hP hS ⊢
  have hw_2 : (0 ≤ r_1.toInt ∧ r_1.toInt ≤ 1) := hw
  have hw_3 := hw_2
  clear hw
  refine lv_if_eq (tgt := 23) hx hb dX12_isPlace_4 (by decide) (fun h_4 => ?_) (fun h_4 => ?_)
  · skip
    have zh_4 : r_1.toInt = 0 := z_eq h_4
    refine lv_iconst (v := 0) hx hb dX12_isPlace_23 (by decide) ?_
    have hP9 := hP.sub (ws' := [(mo, .inr (12, [.int v0, .ref m1, .ref m2, .ref m3, .ref m4, .ref m5, .int v6, .int v7, .int v8, .int v9, .int v10, .long v11, .int v12, .int v13, .int v14, .int v15, .ref m16, .ref m17, .ref m18, .ref m19, .ref m20, .ref m21, .ref m22, .ref m23, .int v24, .ref m25, .ref m26, .ref m27, .ref m28, .ref m29, .int v30, .ref m31, .ref m32, .ref m33, .int v34, .int v35, .int v36, .ref m37, .ref m38, .ref m39, .ref m40, .long v41])), (m16, .inl (k 0, 5, .inl f16))]) [0, 1] rfl
    have hD9 := hD.sub (ws' := [(mo, .inr (12, [.int v0, .ref m1, .ref m2, .ref m3, .ref m4, .ref m5, .int v6, .int v7, .int v8, .int v9, .int v10, .long v11, .int v12, .int v13, .int v14, .int v15, .ref m16, .ref m17, .ref m18, .ref m19, .ref m20, .ref m21, .ref m22, .ref m23, .int v24, .ref m25, .ref m26, .ref m27, .ref m28, .ref m29, .int v30, .ref m31, .ref m32, .ref m33, .int v34, .int v35, .int v36, .ref m37, .ref m38, .ref m39, .ref m40, .long v41])), (m16, .inl (k 0, 5, .inl f16))]) [0, 1] (by decide) rfl
    exact W.zret (v := 0) hx hb hr (by decide) (fun tZ ht hW => ⟨⟨0, (), rfl, ⟨(show 0 ≤ 0 ∧ 0 ≤ 1 from by omega), (show (0 = 1 ∧ 1 ≤ p0.toInt ∧ p0.toInt ≤ 4) ∨ 0 = 0 from by omega)⟩, by rw [ht]; exact hP9, va_K.moved hW.alike hK, hD9⟩, hS.F ht⟩) hS.2.2 dX12_isPlace_24
  · skip
    have zh_4 : ¬ r_1.toInt = 0 := z_ne h_4
    refine lv_iload_n hx hb dX12_isPlace_7 rfl (lv_at hl 1 rfl) ?_
    refine lv_i2l (v := p0.toInt64) hx hb dX12_isPlace_8 rfl ?_
    refine lv_lconst (v := 1) hx hb dX12_isPlace_9 (by decide) ?_
    refine lv_ldc2 (v := 4) hx hb hown (hts _ tw_7_102) dX12_isPlace_10 ?_
    have hPc := hP.sub (ws' := []) [] rfl
    have hDc := hD.sub (ws' := []) [] (by decide) rfl
    have hFc := va_free (wc := []) hD hS hA [] rfl
    refine va_calli (va_runS (As := [.long p0.toInt64, .long 1, .long 4]) (rest := []) ⟨hx, hb, hml, hown, hts⟩ (c_X12_in l D k p0.toInt64 1 4 H.size) (va_cwS 3 hts (gS tw_6_188 tw_6_189 tw_1_13 tw_6_190) rfl rfl rfl hdS_X12_in ⟨Nat.le_of_ble_eq_true rfl, Nat.le_of_ble_eq_true rfl⟩) (cz_S hK hPc hDc hN [.long p0.toInt64, .long 1, .long 4]) rfl rfl hl.1 rfl (lv_room (Nat.le_of_ble_eq_true rfl)) dX12_isPlace_13 ⟨Nat.le_of_ble_eq_true rfl, Nat.le_of_ble_eq_true rfl⟩) hS (fun q _ h => hFc q h) hFc (fun r_5 uZ tZ H1 locs ht hvm hw hB hz1 hk1 hS => ?_)
    obtain ⟨hP1, hK1, hD1⟩ := hB
    rw [ht] at hP1
    obtain ⟨hP, hD⟩ := va_join (wr := [(mo, .inr (12, [.int v0, .ref m1, .ref m2, .ref m3, .ref m4, .ref m5, .int v6, .int v7, .int v8, .int v9, .int v10, .long v11, .int v12, .int v13, .int v14, .int v15, .ref m16, .ref m17, .ref m18, .ref m19, .ref m20, .ref m21, .ref m22, .ref m23, .int v24, .ref m25, .ref m26, .ref m27, .ref m28, .ref m29, .int v30, .ref m31, .ref m32, .ref m33, .int v34, .int v35, .int v36, .ref m37, .ref m38, .ref m39, .ref m40, .long v41])), (m16, .inl (k 0, 5, .inl f16))]) (w1 := []) hP hD [] [0, 1] rfl rfl (by decide) (by decide) hk1 hFc hP1 hD1
    clear hK1 hP1 hD1 hPc hDc hFc
    clear hk1 hz1 ht hvm
    have hP : va_P D vwCl [(mo, .inr (12, [.int v0, .ref m1, .ref m2, .ref m3, .ref m4, .ref m5, .int v6, .int v7, .int v8, .int v9, .int v10, .long v11, .int v12, .int v13, .int v14, .int v15, .ref m16, .ref m17, .ref m18, .ref m19, .ref m20, .ref m21, .ref m22, .ref m23, .int v24, .ref m25, .ref m26, .ref m27, .ref m28, .ref m29, .int v30, .ref m31, .ref m32, .ref m33, .int v34, .int v35, .int v36, .ref m37, .ref m38, .ref m39, .ref m40, .long v41])), (m16, .inl (k 0, 5, .inl f16))] H1 := hP
    have hD : va_D A [(mo, .inr (12, [.int v0, .ref m1, .ref m2, .ref m3, .ref m4, .ref m5, .int v6, .int v7, .int v8, .int v9, .int v10, .long v11, .int v12, .int v13, .int v14, .int v15, .ref m16, .ref m17, .ref m18, .ref m19, .ref m20, .ref m21, .ref m22, .ref m23, .int v24, .ref m25, .ref m26, .ref m27, .ref m28, .ref m29, .int v30, .ref m31, .ref m32, .ref m33, .int v34, .int v35, .int v36, .ref m37, .ref m38, .ref m39, .ref m40, .long v41])), (m16, .inl (k 0, 5, .inl f16))] := hD
    generalize H1 = H at hP hS ⊢
    have hw_6 : (0 ≤ r_5.toInt ∧ r_5.toInt ≤ 1) ∧ ((r_5.toInt = 1 ∧ 1 ≤ p0.toInt64.toInt ∧ p0.toInt64.toInt ≤ 4) ∨ (r_5.toInt = 0 ∧ (p0.toInt64.toInt < 1 ∨ 4 < p0.toInt64.toInt))) := hw
    obtain ⟨hw_7, hw_8⟩ := hw_6
    clear hw
    simp only [Int32.toInt_toInt64] at hw_7 hw_8
    refine lv_if_eq (tgt := 23) hx hb dX12_isPlace_16 (by decide) (fun h_9 => ?_) (fun h_9 => ?_)
    · skip
      have zh_9 : r_5.toInt = 0 := z_eq h_9
      refine lv_iconst (v := 0) hx hb dX12_isPlace_23 (by decide) ?_
      have hP9 := hP.sub (ws' := [(mo, .inr (12, [.int v0, .ref m1, .ref m2, .ref m3, .ref m4, .ref m5, .int v6, .int v7, .int v8, .int v9, .int v10, .long v11, .int v12, .int v13, .int v14, .int v15, .ref m16, .ref m17, .ref m18, .ref m19, .ref m20, .ref m21, .ref m22, .ref m23, .int v24, .ref m25, .ref m26, .ref m27, .ref m28, .ref m29, .int v30, .ref m31, .ref m32, .ref m33, .int v34, .int v35, .int v36, .ref m37, .ref m38, .ref m39, .ref m40, .long v41])), (m16, .inl (k 0, 5, .inl f16))]) [0, 1] rfl
      have hD9 := hD.sub (ws' := [(mo, .inr (12, [.int v0, .ref m1, .ref m2, .ref m3, .ref m4, .ref m5, .int v6, .int v7, .int v8, .int v9, .int v10, .long v11, .int v12, .int v13, .int v14, .int v15, .ref m16, .ref m17, .ref m18, .ref m19, .ref m20, .ref m21, .ref m22, .ref m23, .int v24, .ref m25, .ref m26, .ref m27, .ref m28, .ref m29, .int v30, .ref m31, .ref m32, .ref m33, .int v34, .int v35, .int v36, .ref m37, .ref m38, .ref m39, .ref m40, .long v41])), (m16, .inl (k 0, 5, .inl f16))]) [0, 1] (by decide) rfl
      exact W.zret (v := 0) hx hb hr (by decide) (fun tZ ht hW => ⟨⟨0, (), rfl, ⟨(show 0 ≤ 0 ∧ 0 ≤ 1 from by omega), (show (0 = 1 ∧ 1 ≤ p0.toInt ∧ p0.toInt ≤ 4) ∨ 0 = 0 from by omega)⟩, by rw [ht]; exact hP9, va_K.moved hW.alike hK, hD9⟩, hS.F ht⟩) hS.2.2 dX12_isPlace_24
    · skip
      have zh_9 : ¬ r_5.toInt = 0 := z_ne h_9
      refine lv_iconst (v := 1) hx hb dX12_isPlace_19 (by decide) ?_
      refine lv_goto (tgt := 24) hx hb dX12_isPlace_20 (by decide) ?_
      have hP9 := hP.sub (ws' := [(mo, .inr (12, [.int v0, .ref m1, .ref m2, .ref m3, .ref m4, .ref m5, .int v6, .int v7, .int v8, .int v9, .int v10, .long v11, .int v12, .int v13, .int v14, .int v15, .ref m16, .ref m17, .ref m18, .ref m19, .ref m20, .ref m21, .ref m22, .ref m23, .int v24, .ref m25, .ref m26, .ref m27, .ref m28, .ref m29, .int v30, .ref m31, .ref m32, .ref m33, .int v34, .int v35, .int v36, .ref m37, .ref m38, .ref m39, .ref m40, .long v41])), (m16, .inl (k 0, 5, .inl f16))]) [0, 1] rfl
      have hD9 := hD.sub (ws' := [(mo, .inr (12, [.int v0, .ref m1, .ref m2, .ref m3, .ref m4, .ref m5, .int v6, .int v7, .int v8, .int v9, .int v10, .long v11, .int v12, .int v13, .int v14, .int v15, .ref m16, .ref m17, .ref m18, .ref m19, .ref m20, .ref m21, .ref m22, .ref m23, .int v24, .ref m25, .ref m26, .ref m27, .ref m28, .ref m29, .int v30, .ref m31, .ref m32, .ref m33, .int v34, .int v35, .int v36, .ref m37, .ref m38, .ref m39, .ref m40, .long v41])), (m16, .inl (k 0, 5, .inl f16))]) [0, 1] (by decide) rfl
      exact W.zret (v := 1) hx hb hr (by decide) (fun tZ ht hW => ⟨⟨1, (), rfl, ⟨(show 0 ≤ 1 ∧ 1 ≤ 1 from by omega), (show (1 = 1 ∧ 1 ≤ p0.toInt ∧ p0.toInt ≤ 4) ∨ 1 = 0 from by omega)⟩, by rw [ht]; exact hP9, va_K.moved hW.alike hK, hD9⟩, hS.F ht⟩) hS.2.2 dX12_isPlace_24
set_option maxHeartbeats 4000000 in
set_option maxRecDepth 100000 in
theorem c_X12_isCart (l : Launch) (D : va_G) (k : Nat → ClassId) (mo : Nat) (p0 : Int32) (v0 : Int32) (m1 : Nat) (m2 : Nat) (m3 : Nat) (m4 : Nat) (m5 : Nat) (v6 : Int32) (v7 : Int32) (v8 : Int32) (v9 : Int32) (v10 : Int32) (v11 : Int64) (v12 : Int32) (v13 : Int32) (v14 : Int32) (v15 : Int32) (m16 : Nat) (m17 : Nat) (m18 : Nat) (m19 : Nat) (m20 : Nat) (m21 : Nat) (m22 : Nat) (m23 : Nat) (v24 : Int32) (m25 : Nat) (m26 : Nat) (m27 : Nat) (m28 : Nat) (m29 : Nat) (v30 : Int32) (m31 : Nat) (m32 : Nat) (m33 : Nat) (v34 : Int32) (v35 : Int32) (v36 : Int32) (m37 : Nat) (m38 : Nat) (m39 : Nat) (m40 : Nat) (v41 : Int64) (f16 : Nat → Int32) (sz : Nat) (h_v6 : 0 ≤ v6.toInt ∧ v6.toInt ≤ 1000) (h_v24 : 0 ≤ v24.toInt ∧ v24.toInt ≤ 1023) : Met l yX12_isCart (ww yX12_isCart cX12_isCart 2 (some .boolean)) ({ frames := 1, cells := 0, slots := 0, locals := 25 }) (Pre0 D k [(mo, .inr (12, [.int v0, .ref m1, .ref m2, .ref m3, .ref m4, .ref m5, .int v6, .int v7, .int v8, .int v9, .int v10, .long v11, .int v12, .int v13, .int v14, .int v15, .ref m16, .ref m17, .ref m18, .ref m19, .ref m20, .ref m21, .ref m22, .ref m23, .int v24, .ref m25, .ref m26, .ref m27, .ref m28, .ref m29, .int v30, .ref m31, .ref m32, .ref m33, .int v34, .int v35, .int v36, .ref m37, .ref m38, .ref m39, .ref m40, .long v41])), (m16, .inl (k 0, 5, .inl f16))] sz [.ref mo, .int p0]) (va_Qi (fun (r : Int32) (_ : Unit) => (0 ≤ r.toInt ∧ r.toInt ≤ 1) ∧ ((r.toInt = 1 ∧ 1 ≤ p0.toInt ∧ p0.toInt ≤ 99) ∨ r.toInt = 0)) (fun (_ : Unit) tZ => Bw D k (va_A [(mo, .inr (12, [.int v0, .ref m1, .ref m2, .ref m3, .ref m4, .ref m5, .int v6, .int v7, .int v8, .int v9, .int v10, .long v11, .int v12, .int v13, .int v14, .int v15, .ref m16, .ref m17, .ref m18, .ref m19, .ref m20, .ref m21, .ref m22, .ref m23, .int v24, .ref m25, .ref m26, .ref m27, .ref m28, .ref m29, .int v30, .ref m31, .ref m32, .ref m33, .int v34, .int v35, .int v36, .ref m37, .ref m38, .ref m39, .ref m40, .long v41])), (m16, .inl (k 0, 5, .inl f16))] sz) [(mo, .inr (12, [.int v0, .ref m1, .ref m2, .ref m3, .ref m4, .ref m5, .int v6, .int v7, .int v8, .int v9, .int v10, .long v11, .int v12, .int v13, .int v14, .int v15, .ref m16, .ref m17, .ref m18, .ref m19, .ref m20, .ref m21, .ref m22, .ref m23, .int v24, .ref m25, .ref m26, .ref m27, .ref m28, .ref m29, .int v30, .ref m31, .ref m32, .ref m33, .int v34, .int v35, .int v36, .ref m37, .ref m38, .ref m39, .ref m40, .long v41])), (m16, .inl (k 0, 5, .inl f16))] tZ) (va_A [(mo, .inr (12, [.int v0, .ref m1, .ref m2, .ref m3, .ref m4, .ref m5, .int v6, .int v7, .int v8, .int v9, .int v10, .long v11, .int v12, .int v13, .int v14, .int v15, .ref m16, .ref m17, .ref m18, .ref m19, .ref m20, .ref m21, .ref m22, .ref m23, .int v24, .ref m25, .ref m26, .ref m27, .ref m28, .ref m29, .int v30, .ref m31, .ref m32, .ref m33, .int v34, .int v35, .int v36, .ref m37, .ref m38, .ref m39, .ref m40, .long v41])), (m16, .inl (k 0, 5, .inl f16))] sz)) 0 0 (va_A [(mo, .inr (12, [.int v0, .ref m1, .ref m2, .ref m3, .ref m4, .ref m5, .int v6, .int v7, .int v8, .int v9, .int v10, .long v11, .int v12, .int v13, .int v14, .int v15, .ref m16, .ref m17, .ref m18, .ref m19, .ref m20, .ref m21, .ref m22, .ref m23, .int v24, .ref m25, .ref m26, .ref m27, .ref m28, .ref m29, .int v30, .ref m31, .ref m32, .ref m33, .int v34, .int v35, .int v36, .ref m37, .ref m38, .ref m39, .ref m40, .long v41])), (m16, .inl (k 0, 5, .inl f16))] sz) := by
  refine Met.ofW (cc := cX12_isCart) (maxL := 2) (ret := (some .boolean)) (by decide +kernel) rfl ?_
  intro p e s m args below meth c s₁ B hml hv
  obtain ⟨rfl, hsz, hP, hK, hD0, hN⟩ := hv
  have hx := B.exec
  have hb := B.bytes
  have hr := B.returns
  have hts : ∀ w ∈ TT, w.before _ s = true := fun w h => atoms_spec (ws := ww yX12_isCart cX12_isCart 2 (some .boolean)) B.pre w (List.mem_cons_of_mem _ h)
  have hown : s.vm.findClass RX12 = some m.cls := findClass_of_methodNamed B.named
  have hlocks := B.notSynchronized
  subst hsz
  have hD := hD0.self (sz := s.heap.size)
  generalize hAe : va_A [(mo, .inr (12, [.int v0, .ref m1, .ref m2, .ref m3, .ref m4, .ref m5, .int v6, .int v7, .int v8, .int v9, .int v10, .long v11, .int v12, .int v13, .int v14, .int v15, .ref m16, .ref m17, .ref m18, .ref m19, .ref m20, .ref m21, .ref m22, .ref m23, .int v24, .ref m25, .ref m26, .ref m27, .ref m28, .ref m29, .int v30, .ref m31, .ref m32, .ref m33, .int v34, .int v35, .int v36, .ref m37, .ref m38, .ref m39, .ref m40, .long v41])), (m16, .inl (k 0, 5, .inl f16))] s.heap.size = A at hD ⊢
  have hA : ∀ q : Nat, s.heap.size ≤ q → A q := fun q h => by rw [← hAe]; exact Or.inr h
  have hS : va_S A s.heap s.heap [] := va_S.rf
  have hl := lv_entry ([.ref mo, .int p0]) (n := 2) (Nat.le_of_ble_eq_true rfl)
  rw [lg_entry_eq]
  generalize (lg_sl ([.ref mo, .int p0]) ++ List.replicate (2 - (lg_sl ([.ref mo, .int p0])).length) Slot.unset).toArray = ls at hl ⊢
  have hl : lv_has ls 2 [(0, .ref mo), (1, .int p0)] := hl
  refine lv_aload_n hx hb dX12_isCart_0 rfl (lv_at hl 0 rfl) ?_
  have hPc := hP.sub (ws' := [(mo, .inr (12, [.int v0, .ref m1, .ref m2, .ref m3, .ref m4, .ref m5, .int v6, .int v7, .int v8, .int v9, .int v10, .long v11, .int v12, .int v13, .int v14, .int v15, .ref m16, .ref m17, .ref m18, .ref m19, .ref m20, .ref m21, .ref m22, .ref m23, .int v24, .ref m25, .ref m26, .ref m27, .ref m28, .ref m29, .int v30, .ref m31, .ref m32, .ref m33, .int v34, .int v35, .int v36, .ref m37, .ref m38, .ref m39, .ref m40, .long v41])), (m16, .inl (k 0, 5, .inl f16))]) [0, 1] rfl
  have hDc := hD.sub (ws' := [(mo, .inr (12, [.int v0, .ref m1, .ref m2, .ref m3, .ref m4, .ref m5, .int v6, .int v7, .int v8, .int v9, .int v10, .long v11, .int v12, .int v13, .int v14, .int v15, .ref m16, .ref m17, .ref m18, .ref m19, .ref m20, .ref m21, .ref m22, .ref m23, .int v24, .ref m25, .ref m26, .ref m27, .ref m28, .ref m29, .int v30, .ref m31, .ref m32, .ref m33, .int v34, .int v35, .int v36, .ref m37, .ref m38, .ref m39, .ref m40, .long v41])), (m16, .inl (k 0, 5, .inl f16))]) [0, 1] (by decide) rfl
  have hFc := va_free (wc := [(mo, .inr (12, [.int v0, .ref m1, .ref m2, .ref m3, .ref m4, .ref m5, .int v6, .int v7, .int v8, .int v9, .int v10, .long v11, .int v12, .int v13, .int v14, .int v15, .ref m16, .ref m17, .ref m18, .ref m19, .ref m20, .ref m21, .ref m22, .ref m23, .int v24, .ref m25, .ref m26, .ref m27, .ref m28, .ref m29, .int v30, .ref m31, .ref m32, .ref m33, .int v34, .int v35, .int v36, .ref m37, .ref m38, .ref m39, .ref m40, .long v41])), (m16, .inl (k 0, 5, .inl f16))]) hD hS hA [0, 1] rfl
  refine va_calli (va_runV (C := RX12) (As := []) (rest := []) ⟨hx, hb, hml, hown, hts⟩ (c_X12_isTown l D k mo v0 m1 m2 m3 m4 m5 v6 v7 v8 v9 v10 v11 v12 v13 v14 v15 m16 m17 m18 m19 m20 m21 m22 m23 v24 m25 m26 m27 m28 m29 v30 m31 m32 m33 v34 v35 v36 m37 m38 m39 m40 v41 f16 s.heap.size (show 0 ≤ v6.toInt ∧ v6.toInt ≤ 1000 from by omega) (show 0 ≤ v24.toInt ∧ v24.toInt ≤ 1023 from by omega)) (cwV 0 hts (gV tw_7_181 tw_7_183 tw_p_71 tw_1_13 tw_7_184) rfl rfl rfl hdV_X12_isTown ⟨Nat.le_of_ble_eq_true rfl, Nat.le_of_ble_eq_true rfl⟩) (cz_V hK hPc hDc hN (ci := 12) (q0 := 0) rfl rfl []) rfl rfl hl.1 rfl (lv_room (Nat.le_of_ble_eq_true rfl)) dX12_isCart_1 ⟨Nat.le_of_ble_eq_true rfl, Nat.le_of_ble_eq_true rfl⟩) hS (fun q _ h => hFc q h) hFc (fun r_1 uZ tZ H1 locs ht hvm hw hB hz1 hk1 hS => ?_)
  obtain ⟨hP1, hK1, hD1⟩ := hB
  rw [ht] at hP1
  obtain ⟨hP, hD⟩ := va_join (wr := []) (w1 := [(mo, .inr (12, [.int v0, .ref m1, .ref m2, .ref m3, .ref m4, .ref m5, .int v6, .int v7, .int v8, .int v9, .int v10, .long v11, .int v12, .int v13, .int v14, .int v15, .ref m16, .ref m17, .ref m18, .ref m19, .ref m20, .ref m21, .ref m22, .ref m23, .int v24, .ref m25, .ref m26, .ref m27, .ref m28, .ref m29, .int v30, .ref m31, .ref m32, .ref m33, .int v34, .int v35, .int v36, .ref m37, .ref m38, .ref m39, .ref m40, .long v41])), (m16, .inl (k 0, 5, .inl f16))]) hP hD [0, 1] [] rfl rfl (by decide) (by decide) hk1 hFc hP1 hD1
  clear hK1 hP1 hD1 hPc hDc hFc
  clear hk1 hz1 ht hvm
  have hP : va_P D vwCl [(mo, .inr (12, [.int v0, .ref m1, .ref m2, .ref m3, .ref m4, .ref m5, .int v6, .int v7, .int v8, .int v9, .int v10, .long v11, .int v12, .int v13, .int v14, .int v15, .ref m16, .ref m17, .ref m18, .ref m19, .ref m20, .ref m21, .ref m22, .ref m23, .int v24, .ref m25, .ref m26, .ref m27, .ref m28, .ref m29, .int v30, .ref m31, .ref m32, .ref m33, .int v34, .int v35, .int v36, .ref m37, .ref m38, .ref m39, .ref m40, .long v41])), (m16, .inl (k 0, 5, .inl f16))] H1 := hP
  have hD : va_D A [(mo, .inr (12, [.int v0, .ref m1, .ref m2, .ref m3, .ref m4, .ref m5, .int v6, .int v7, .int v8, .int v9, .int v10, .long v11, .int v12, .int v13, .int v14, .int v15, .ref m16, .ref m17, .ref m18, .ref m19, .ref m20, .ref m21, .ref m22, .ref m23, .int v24, .ref m25, .ref m26, .ref m27, .ref m28, .ref m29, .int v30, .ref m31, .ref m32, .ref m33, .int v34, .int v35, .int v36, .ref m37, .ref m38, .ref m39, .ref m40, .long v41])), (m16, .inl (k 0, 5, .inl f16))] := hD
  generalize H1 = H at hP hS ⊢
  have hw_2 : (0 ≤ r_1.toInt ∧ r_1.toInt ≤ 1) := hw
  have hw_3 := hw_2
  clear hw
  refine lv_if_eq (tgt := 23) hx hb dX12_isCart_4 (by decide) (fun h_4 => ?_) (fun h_4 => ?_)
  · skip
    have zh_4 : r_1.toInt = 0 := z_eq h_4
    refine lv_iconst (v := 0) hx hb dX12_isCart_23 (by decide) ?_
    have hP9 := hP.sub (ws' := [(mo, .inr (12, [.int v0, .ref m1, .ref m2, .ref m3, .ref m4, .ref m5, .int v6, .int v7, .int v8, .int v9, .int v10, .long v11, .int v12, .int v13, .int v14, .int v15, .ref m16, .ref m17, .ref m18, .ref m19, .ref m20, .ref m21, .ref m22, .ref m23, .int v24, .ref m25, .ref m26, .ref m27, .ref m28, .ref m29, .int v30, .ref m31, .ref m32, .ref m33, .int v34, .int v35, .int v36, .ref m37, .ref m38, .ref m39, .ref m40, .long v41])), (m16, .inl (k 0, 5, .inl f16))]) [0, 1] rfl
    have hD9 := hD.sub (ws' := [(mo, .inr (12, [.int v0, .ref m1, .ref m2, .ref m3, .ref m4, .ref m5, .int v6, .int v7, .int v8, .int v9, .int v10, .long v11, .int v12, .int v13, .int v14, .int v15, .ref m16, .ref m17, .ref m18, .ref m19, .ref m20, .ref m21, .ref m22, .ref m23, .int v24, .ref m25, .ref m26, .ref m27, .ref m28, .ref m29, .int v30, .ref m31, .ref m32, .ref m33, .int v34, .int v35, .int v36, .ref m37, .ref m38, .ref m39, .ref m40, .long v41])), (m16, .inl (k 0, 5, .inl f16))]) [0, 1] (by decide) rfl
    exact W.zret (v := 0) hx hb hr (by decide) (fun tZ ht hW => ⟨⟨0, (), rfl, ⟨(show 0 ≤ 0 ∧ 0 ≤ 1 from by omega), (show (0 = 1 ∧ 1 ≤ p0.toInt ∧ p0.toInt ≤ 99) ∨ 0 = 0 from by omega)⟩, by rw [ht]; exact hP9, va_K.moved hW.alike hK, hD9⟩, hS.F ht⟩) hS.2.2 dX12_isCart_24
  · skip
    have zh_4 : ¬ r_1.toInt = 0 := z_ne h_4
    refine lv_iload_n hx hb dX12_isCart_7 rfl (lv_at hl 1 rfl) ?_
    refine lv_i2l (v := p0.toInt64) hx hb dX12_isCart_8 rfl ?_
    refine lv_lconst (v := 1) hx hb dX12_isCart_9 (by decide) ?_
    refine lv_ldc2 (v := 99) hx hb hown (hts _ tw_8_141) dX12_isCart_10 ?_
    have hPc := hP.sub (ws' := []) [] rfl
    have hDc := hD.sub (ws' := []) [] (by decide) rfl
    have hFc := va_free (wc := []) hD hS hA [] rfl
    refine va_calli (va_runS (As := [.long p0.toInt64, .long 1, .long 99]) (rest := []) ⟨hx, hb, hml, hown, hts⟩ (c_X12_in l D k p0.toInt64 1 99 H.size) (va_cwS 3 hts (gS tw_6_188 tw_6_189 tw_1_13 tw_6_190) rfl rfl rfl hdS_X12_in ⟨Nat.le_of_ble_eq_true rfl, Nat.le_of_ble_eq_true rfl⟩) (cz_S hK hPc hDc hN [.long p0.toInt64, .long 1, .long 99]) rfl rfl hl.1 rfl (lv_room (Nat.le_of_ble_eq_true rfl)) dX12_isCart_13 ⟨Nat.le_of_ble_eq_true rfl, Nat.le_of_ble_eq_true rfl⟩) hS (fun q _ h => hFc q h) hFc (fun r_5 uZ tZ H1 locs ht hvm hw hB hz1 hk1 hS => ?_)
    obtain ⟨hP1, hK1, hD1⟩ := hB
    rw [ht] at hP1
    obtain ⟨hP, hD⟩ := va_join (wr := [(mo, .inr (12, [.int v0, .ref m1, .ref m2, .ref m3, .ref m4, .ref m5, .int v6, .int v7, .int v8, .int v9, .int v10, .long v11, .int v12, .int v13, .int v14, .int v15, .ref m16, .ref m17, .ref m18, .ref m19, .ref m20, .ref m21, .ref m22, .ref m23, .int v24, .ref m25, .ref m26, .ref m27, .ref m28, .ref m29, .int v30, .ref m31, .ref m32, .ref m33, .int v34, .int v35, .int v36, .ref m37, .ref m38, .ref m39, .ref m40, .long v41])), (m16, .inl (k 0, 5, .inl f16))]) (w1 := []) hP hD [] [0, 1] rfl rfl (by decide) (by decide) hk1 hFc hP1 hD1
    clear hK1 hP1 hD1 hPc hDc hFc
    clear hk1 hz1 ht hvm
    have hP : va_P D vwCl [(mo, .inr (12, [.int v0, .ref m1, .ref m2, .ref m3, .ref m4, .ref m5, .int v6, .int v7, .int v8, .int v9, .int v10, .long v11, .int v12, .int v13, .int v14, .int v15, .ref m16, .ref m17, .ref m18, .ref m19, .ref m20, .ref m21, .ref m22, .ref m23, .int v24, .ref m25, .ref m26, .ref m27, .ref m28, .ref m29, .int v30, .ref m31, .ref m32, .ref m33, .int v34, .int v35, .int v36, .ref m37, .ref m38, .ref m39, .ref m40, .long v41])), (m16, .inl (k 0, 5, .inl f16))] H1 := hP
    have hD : va_D A [(mo, .inr (12, [.int v0, .ref m1, .ref m2, .ref m3, .ref m4, .ref m5, .int v6, .int v7, .int v8, .int v9, .int v10, .long v11, .int v12, .int v13, .int v14, .int v15, .ref m16, .ref m17, .ref m18, .ref m19, .ref m20, .ref m21, .ref m22, .ref m23, .int v24, .ref m25, .ref m26, .ref m27, .ref m28, .ref m29, .int v30, .ref m31, .ref m32, .ref m33, .int v34, .int v35, .int v36, .ref m37, .ref m38, .ref m39, .ref m40, .long v41])), (m16, .inl (k 0, 5, .inl f16))] := hD
    generalize H1 = H at hP hS ⊢
    have hw_6 : (0 ≤ r_5.toInt ∧ r_5.toInt ≤ 1) ∧ ((r_5.toInt = 1 ∧ 1 ≤ p0.toInt64.toInt ∧ p0.toInt64.toInt ≤ 99) ∨ (r_5.toInt = 0 ∧ (p0.toInt64.toInt < 1 ∨ 99 < p0.toInt64.toInt))) := hw
    obtain ⟨hw_7, hw_8⟩ := hw_6
    clear hw
    simp only [Int32.toInt_toInt64] at hw_7 hw_8
    refine lv_if_eq (tgt := 23) hx hb dX12_isCart_16 (by decide) (fun h_9 => ?_) (fun h_9 => ?_)
    · skip
      have zh_9 : r_5.toInt = 0 := z_eq h_9
      refine lv_iconst (v := 0) hx hb dX12_isCart_23 (by decide) ?_
      have hP9 := hP.sub (ws' := [(mo, .inr (12, [.int v0, .ref m1, .ref m2, .ref m3, .ref m4, .ref m5, .int v6, .int v7, .int v8, .int v9, .int v10, .long v11, .int v12, .int v13, .int v14, .int v15, .ref m16, .ref m17, .ref m18, .ref m19, .ref m20, .ref m21, .ref m22, .ref m23, .int v24, .ref m25, .ref m26, .ref m27, .ref m28, .ref m29, .int v30, .ref m31, .ref m32, .ref m33, .int v34, .int v35, .int v36, .ref m37, .ref m38, .ref m39, .ref m40, .long v41])), (m16, .inl (k 0, 5, .inl f16))]) [0, 1] rfl
      have hD9 := hD.sub (ws' := [(mo, .inr (12, [.int v0, .ref m1, .ref m2, .ref m3, .ref m4, .ref m5, .int v6, .int v7, .int v8, .int v9, .int v10, .long v11, .int v12, .int v13, .int v14, .int v15, .ref m16, .ref m17, .ref m18, .ref m19, .ref m20, .ref m21, .ref m22, .ref m23, .int v24, .ref m25, .ref m26, .ref m27, .ref m28, .ref m29, .int v30, .ref m31, .ref m32, .ref m33, .int v34, .int v35, .int v36, .ref m37, .ref m38, .ref m39, .ref m40, .long v41])), (m16, .inl (k 0, 5, .inl f16))]) [0, 1] (by decide) rfl
      exact W.zret (v := 0) hx hb hr (by decide) (fun tZ ht hW => ⟨⟨0, (), rfl, ⟨(show 0 ≤ 0 ∧ 0 ≤ 1 from by omega), (show (0 = 1 ∧ 1 ≤ p0.toInt ∧ p0.toInt ≤ 99) ∨ 0 = 0 from by omega)⟩, by rw [ht]; exact hP9, va_K.moved hW.alike hK, hD9⟩, hS.F ht⟩) hS.2.2 dX12_isCart_24
    · skip
      have zh_9 : ¬ r_5.toInt = 0 := z_ne h_9
      refine lv_iconst (v := 1) hx hb dX12_isCart_19 (by decide) ?_
      refine lv_goto (tgt := 24) hx hb dX12_isCart_20 (by decide) ?_
      have hP9 := hP.sub (ws' := [(mo, .inr (12, [.int v0, .ref m1, .ref m2, .ref m3, .ref m4, .ref m5, .int v6, .int v7, .int v8, .int v9, .int v10, .long v11, .int v12, .int v13, .int v14, .int v15, .ref m16, .ref m17, .ref m18, .ref m19, .ref m20, .ref m21, .ref m22, .ref m23, .int v24, .ref m25, .ref m26, .ref m27, .ref m28, .ref m29, .int v30, .ref m31, .ref m32, .ref m33, .int v34, .int v35, .int v36, .ref m37, .ref m38, .ref m39, .ref m40, .long v41])), (m16, .inl (k 0, 5, .inl f16))]) [0, 1] rfl
      have hD9 := hD.sub (ws' := [(mo, .inr (12, [.int v0, .ref m1, .ref m2, .ref m3, .ref m4, .ref m5, .int v6, .int v7, .int v8, .int v9, .int v10, .long v11, .int v12, .int v13, .int v14, .int v15, .ref m16, .ref m17, .ref m18, .ref m19, .ref m20, .ref m21, .ref m22, .ref m23, .int v24, .ref m25, .ref m26, .ref m27, .ref m28, .ref m29, .int v30, .ref m31, .ref m32, .ref m33, .int v34, .int v35, .int v36, .ref m37, .ref m38, .ref m39, .ref m40, .long v41])), (m16, .inl (k 0, 5, .inl f16))]) [0, 1] (by decide) rfl
      exact W.zret (v := 1) hx hb hr (by decide) (fun tZ ht hW => ⟨⟨1, (), rfl, ⟨(show 0 ≤ 1 ∧ 1 ≤ 1 from by omega), (show (1 = 1 ∧ 1 ≤ p0.toInt ∧ p0.toInt ≤ 99) ∨ 1 = 0 from by omega)⟩, by rw [ht]; exact hP9, va_K.moved hW.alike hK, hD9⟩, hS.F ht⟩) hS.2.2 dX12_isCart_24
set_option maxHeartbeats 4000000 in
set_option maxRecDepth 100000 in
theorem c_X12_winner (l : Launch) (D : va_G) (k : Nat → ClassId) (mo : Nat) (v0 : Int32) (m1 : Nat) (m2 : Nat) (m3 : Nat) (m4 : Nat) (m5 : Nat) (v6 : Int32) (v7 : Int32) (v8 : Int32) (v9 : Int32) (v10 : Int32) (v11 : Int64) (v12 : Int32) (v13 : Int32) (v14 : Int32) (v15 : Int32) (m16 : Nat) (m17 : Nat) (m18 : Nat) (m19 : Nat) (m20 : Nat) (m21 : Nat) (m22 : Nat) (m23 : Nat) (v24 : Int32) (m25 : Nat) (m26 : Nat) (m27 : Nat) (m28 : Nat) (m29 : Nat) (v30 : Int32) (m31 : Nat) (m32 : Nat) (m33 : Nat) (v34 : Int32) (v35 : Int32) (v36 : Int32) (m37 : Nat) (m38 : Nat) (m39 : Nat) (m40 : Nat) (v41 : Int64) (f17 : Nat → Int32) (f20 : Nat → Int32) (sz : Nat) (h_v6 : 0 ≤ v6.toInt ∧ v6.toInt ≤ 1000) (h_v24 : 0 ≤ v24.toInt ∧ v24.toInt ≤ 1023) (hp_f17_0 : PR 30 6 0 0 8 f17) (hp_f17_1 : PR 30 6 1 0 10 f17) (hp_f17_2 : PR 30 6 2 0 4 f17) (hp_f17_3 : PR 30 6 3 0 6 f17) (hp_f17_4 : PR 30 6 4 0 2 f17) (hp_f17_5 : PR 30 6 5 0 40 f17) (hp_f20_0 : PR 120 4 0 0 7 f20) : Met l yX12_winner (ww yX12_winner cX12_winner 3 (some .int)) ({ frames := 0, cells := 0, slots := 0, locals := 0 }) (Pre0 D k [(mo, .inr (12, [.int v0, .ref m1, .ref m2, .ref m3, .ref m4, .ref m5, .int v6, .int v7, .int v8, .int v9, .int v10, .long v11, .int v12, .int v13, .int v14, .int v15, .ref m16, .ref m17, .ref m18, .ref m19, .ref m20, .ref m21, .ref m22, .ref m23, .int v24, .ref m25, .ref m26, .ref m27, .ref m28, .ref m29, .int v30, .ref m31, .ref m32, .ref m33, .int v34, .int v35, .int v36, .ref m37, .ref m38, .ref m39, .ref m40, .long v41])), (m17, .inl (k 0, 30, .inl f17)), (m20, .inl (k 0, 120, .inl f20))] sz [.ref mo]) (va_Qi (fun (r : Int32) (_ : Unit) => ((-1) ≤ r.toInt ∧ r.toInt ≤ 5)) (fun (_ : Unit) tZ => Bw D k (va_A [(mo, .inr (12, [.int v0, .ref m1, .ref m2, .ref m3, .ref m4, .ref m5, .int v6, .int v7, .int v8, .int v9, .int v10, .long v11, .int v12, .int v13, .int v14, .int v15, .ref m16, .ref m17, .ref m18, .ref m19, .ref m20, .ref m21, .ref m22, .ref m23, .int v24, .ref m25, .ref m26, .ref m27, .ref m28, .ref m29, .int v30, .ref m31, .ref m32, .ref m33, .int v34, .int v35, .int v36, .ref m37, .ref m38, .ref m39, .ref m40, .long v41])), (m17, .inl (k 0, 30, .inl f17)), (m20, .inl (k 0, 120, .inl f20))] sz) [(mo, .inr (12, [.int v0, .ref m1, .ref m2, .ref m3, .ref m4, .ref m5, .int v6, .int v7, .int v8, .int v9, .int v10, .long v11, .int v12, .int v13, .int v14, .int v15, .ref m16, .ref m17, .ref m18, .ref m19, .ref m20, .ref m21, .ref m22, .ref m23, .int v24, .ref m25, .ref m26, .ref m27, .ref m28, .ref m29, .int v30, .ref m31, .ref m32, .ref m33, .int v34, .int v35, .int v36, .ref m37, .ref m38, .ref m39, .ref m40, .long v41])), (m17, .inl (k 0, 30, .inl f17)), (m20, .inl (k 0, 120, .inl f20))] tZ) (va_A [(mo, .inr (12, [.int v0, .ref m1, .ref m2, .ref m3, .ref m4, .ref m5, .int v6, .int v7, .int v8, .int v9, .int v10, .long v11, .int v12, .int v13, .int v14, .int v15, .ref m16, .ref m17, .ref m18, .ref m19, .ref m20, .ref m21, .ref m22, .ref m23, .int v24, .ref m25, .ref m26, .ref m27, .ref m28, .ref m29, .int v30, .ref m31, .ref m32, .ref m33, .int v34, .int v35, .int v36, .ref m37, .ref m38, .ref m39, .ref m40, .long v41])), (m17, .inl (k 0, 30, .inl f17)), (m20, .inl (k 0, 120, .inl f20))] sz)) 0 0 (va_A [(mo, .inr (12, [.int v0, .ref m1, .ref m2, .ref m3, .ref m4, .ref m5, .int v6, .int v7, .int v8, .int v9, .int v10, .long v11, .int v12, .int v13, .int v14, .int v15, .ref m16, .ref m17, .ref m18, .ref m19, .ref m20, .ref m21, .ref m22, .ref m23, .int v24, .ref m25, .ref m26, .ref m27, .ref m28, .ref m29, .int v30, .ref m31, .ref m32, .ref m33, .int v34, .int v35, .int v36, .ref m37, .ref m38, .ref m39, .ref m40, .long v41])), (m17, .inl (k 0, 30, .inl f17)), (m20, .inl (k 0, 120, .inl f20))] sz) := by
  refine Met.ofW (cc := cX12_winner) (maxL := 3) (ret := (some .int)) (by decide +kernel) rfl ?_
  intro p e s m args below meth c s₁ B hml hv
  obtain ⟨rfl, hsz, hP, hK, hD0, hN⟩ := hv
  have hx := B.exec
  have hb := B.bytes
  have hr := B.returns
  have hts : ∀ w ∈ TT, w.before _ s = true := fun w h => atoms_spec (ws := ww yX12_winner cX12_winner 3 (some .int)) B.pre w (List.mem_cons_of_mem _ h)
  have hown : s.vm.findClass RX12 = some m.cls := findClass_of_methodNamed B.named
  have hlocks := B.notSynchronized
  subst hsz
  have hD := hD0.self (sz := s.heap.size)
  generalize hAe : va_A [(mo, .inr (12, [.int v0, .ref m1, .ref m2, .ref m3, .ref m4, .ref m5, .int v6, .int v7, .int v8, .int v9, .int v10, .long v11, .int v12, .int v13, .int v14, .int v15, .ref m16, .ref m17, .ref m18, .ref m19, .ref m20, .ref m21, .ref m22, .ref m23, .int v24, .ref m25, .ref m26, .ref m27, .ref m28, .ref m29, .int v30, .ref m31, .ref m32, .ref m33, .int v34, .int v35, .int v36, .ref m37, .ref m38, .ref m39, .ref m40, .long v41])), (m17, .inl (k 0, 30, .inl f17)), (m20, .inl (k 0, 120, .inl f20))] s.heap.size = A at hD ⊢
  have hA : ∀ q : Nat, s.heap.size ≤ q → A q := fun q h => by rw [← hAe]; exact Or.inr h
  have hS : va_S A s.heap s.heap [] := va_S.rf
  have hl := lv_entry ([.ref mo]) (n := 3) (Nat.le_of_ble_eq_true rfl)
  rw [lg_entry_eq]
  generalize (lg_sl ([.ref mo]) ++ List.replicate (3 - (lg_sl ([.ref mo])).length) Slot.unset).toArray = ls at hl ⊢
  have hl : lv_has ls 3 [(0, .ref mo)] := hl
  refine lv_iconst (v := (-1)) hx hb dX12_winner_0 (by decide) ?_
  refine lv_istore_n (lv' := [(1, .int (-1)), (0, .ref mo)]) hx hb dX12_winner_1 rfl hl (by decide) rfl (fun ls hl => ?_)
  refine lv_iconst (v := 0) hx hb dX12_winner_2 (by decide) ?_
  refine lv_istore_n (lv' := [(2, .int 0), (1, .int (-1)), (0, .ref mo)]) hx hb dX12_winner_3 rfl hl (by decide) rfl (fun ls hl => ?_)
  refine loop_r (Wg := fun H locs ls => W p l e _ s m _ below meth c H locs _ _ _ (F0 m 4 ls [])) (fun n9 H locs ls => ∃ (L4l1 : Int32) (L4l2 : Int32), n9 = (6 - L4l2.toInt).toNat ∧ ((-1) ≤ L4l1.toInt ∧ L4l1.toInt ≤ 5) ∧ (0 ≤ L4l2.toInt ∧ L4l2.toInt ≤ 6) ∧ va_P D vwCl [(mo, .inr (12, [.int v0, .ref m1, .ref m2, .ref m3, .ref m4, .ref m5, .int v6, .int v7, .int v8, .int v9, .int v10, .long v11, .int v12, .int v13, .int v14, .int v15, .ref m16, .ref m17, .ref m18, .ref m19, .ref m20, .ref m21, .ref m22, .ref m23, .int v24, .ref m25, .ref m26, .ref m27, .ref m28, .ref m29, .int v30, .ref m31, .ref m32, .ref m33, .int v34, .int v35, .int v36, .ref m37, .ref m38, .ref m39, .ref m40, .long v41])), (m17, .inl (k 0, 30, .inl f17)), (m20, .inl (k 0, 120, .inl f20))] H ∧ va_D A [(mo, .inr (12, [.int v0, .ref m1, .ref m2, .ref m3, .ref m4, .ref m5, .int v6, .int v7, .int v8, .int v9, .int v10, .long v11, .int v12, .int v13, .int v14, .int v15, .ref m16, .ref m17, .ref m18, .ref m19, .ref m20, .ref m21, .ref m22, .ref m23, .int v24, .ref m25, .ref m26, .ref m27, .ref m28, .ref m29, .int v30, .ref m31, .ref m32, .ref m33, .int v34, .int v35, .int v36, .ref m37, .ref m38, .ref m39, .ref m40, .long v41])), (m17, .inl (k 0, 30, .inl f17)), (m20, .inl (k 0, 120, .inl f20))] ∧ va_S A s.heap H locs ∧ lv_has ls 3 [(0, .ref mo), (1, .int L4l1), (2, .int L4l2)]) (fun n9 H locs ls hI ih_1 => ?_) _ _ _ _ ⟨(-1), 0, rfl, (show (-1) ≤ (-1) ∧ (-1) ≤ 5 from by omega), (show 0 ≤ 0 ∧ 0 ≤ 6 from by omega), hP.sub (ws' := [(mo, .inr (12, [.int v0, .ref m1, .ref m2, .ref m3, .ref m4, .ref m5, .int v6, .int v7, .int v8, .int v9, .int v10, .long v11, .int v12, .int v13, .int v14, .int v15, .ref m16, .ref m17, .ref m18, .ref m19, .ref m20, .ref m21, .ref m22, .ref m23, .int v24, .ref m25, .ref m26, .ref m27, .ref m28, .ref m29, .int v30, .ref m31, .ref m32, .ref m33, .int v34, .int v35, .int v36, .ref m37, .ref m38, .ref m39, .ref m40, .long v41])), (m17, .inl (k 0, 30, .inl f17)), (m20, .inl (k 0, 120, .inl f20))]) [0, 1, 2] rfl, hD.sub (ws' := [(mo, .inr (12, [.int v0, .ref m1, .ref m2, .ref m3, .ref m4, .ref m5, .int v6, .int v7, .int v8, .int v9, .int v10, .long v11, .int v12, .int v13, .int v14, .int v15, .ref m16, .ref m17, .ref m18, .ref m19, .ref m20, .ref m21, .ref m22, .ref m23, .int v24, .ref m25, .ref m26, .ref m27, .ref m28, .ref m29, .int v30, .ref m31, .ref m32, .ref m33, .int v34, .int v35, .int v36, .ref m37, .ref m38, .ref m39, .ref m40, .long v41])), (m17, .inl (k 0, 30, .inl f17)), (m20, .inl (k 0, 120, .inl f20))]) [0, 1, 2] (by decide) rfl, hS, lv_sub hl [2, 1, 0] rfl⟩
  clear hP hD hS hl
  obtain ⟨L4l1, L4l2, en_2, zL4l1, zL4l2, hP, hD, hS, hl⟩ := hI
  refine lv_iload_n hx hb dX12_winner_4 rfl (lv_at hl 2 rfl) ?_
  refine lv_aload_n hx hb dX12_winner_5 rfl (lv_at hl 0 rfl) ?_
  refine va_get (D := D) (ci := 12) (v := .ref m17) (C := RX12) (T := TX12) (N := 42) hx hb hts iT_X12 hown hK hP 0 rfl rfl 17 (by decide) (hts _ tw_6_70) (fun _ h9 => h9) rfl dX12_winner_6 ?_
  refine lv_iconst (v := 3) hx hb dX12_winner_9 (by decide) ?_
  refine va_iald hx hb hK hP 1 0 rfl rfl (z_in (by decide) (by decide)) dX12_winner_10 ?_
  refine lv_topi (fun x_3 ex_3 => ?_)
  have zx_3r3 : 0 ≤ x_3.toInt ∧ x_3.toInt ≤ 6 := by rw [ex_3]; exact PR.ld hp_f17_3 (by decide) (by decide) (by decide)
  refine lv_icmp_ge (tgt := 50) hx hb dX12_winner_11 (by decide) (fun h_4 => ?_) (fun h_4 => ?_)
  · skip
    have zh_4 : x_3.toInt ≤ L4l2.toInt := z_le h_4
    refine lv_iload_n hx hb dX12_winner_50 rfl (lv_at hl 1 rfl) ?_
    have hP9 := hP.sub (ws' := [(mo, .inr (12, [.int v0, .ref m1, .ref m2, .ref m3, .ref m4, .ref m5, .int v6, .int v7, .int v8, .int v9, .int v10, .long v11, .int v12, .int v13, .int v14, .int v15, .ref m16, .ref m17, .ref m18, .ref m19, .ref m20, .ref m21, .ref m22, .ref m23, .int v24, .ref m25, .ref m26, .ref m27, .ref m28, .ref m29, .int v30, .ref m31, .ref m32, .ref m33, .int v34, .int v35, .int v36, .ref m37, .ref m38, .ref m39, .ref m40, .long v41])), (m17, .inl (k 0, 30, .inl f17)), (m20, .inl (k 0, 120, .inl f20))]) [0, 1, 2] rfl
    have hD9 := hD.sub (ws' := [(mo, .inr (12, [.int v0, .ref m1, .ref m2, .ref m3, .ref m4, .ref m5, .int v6, .int v7, .int v8, .int v9, .int v10, .long v11, .int v12, .int v13, .int v14, .int v15, .ref m16, .ref m17, .ref m18, .ref m19, .ref m20, .ref m21, .ref m22, .ref m23, .int v24, .ref m25, .ref m26, .ref m27, .ref m28, .ref m29, .int v30, .ref m31, .ref m32, .ref m33, .int v34, .int v35, .int v36, .ref m37, .ref m38, .ref m39, .ref m40, .long v41])), (m17, .inl (k 0, 30, .inl f17)), (m20, .inl (k 0, 120, .inl f20))]) [0, 1, 2] (by decide) rfl
    exact W.iret (v := L4l1) hx hb hr (fun tZ ht hW => ⟨⟨L4l1, (), rfl, (show (-1) ≤ L4l1.toInt ∧ L4l1.toInt ≤ 5 from by omega), by rw [ht]; exact hP9, va_K.moved hW.alike hK, hD9⟩, hS.F ht⟩) hS.2.2 dX12_winner_51
  · skip
    have zh_4 : L4l2.toInt < x_3.toInt := z_nle h_4
    refine lv_iload_n hx hb dX12_winner_14 rfl (lv_at hl 1 rfl) ?_
    refine lv_iconst (v := (-1)) hx hb dX12_winner_15 (by decide) ?_
    refine lv_icmp_eq (tgt := 42) hx hb dX12_winner_16 (by decide) (fun h_5 => ?_) (fun h_5 => ?_)
    · skip
      have zh_5 : L4l1.toInt = (-1) := z_eq h_5
      refine lv_iload_n hx hb dX12_winner_42 rfl (lv_at hl 2 rfl) ?_
      refine lv_istore_n (lv' := [(1, .int L4l2), (0, .ref mo), (2, .int L4l2)]) hx hb dX12_winner_43 rfl hl (by decide) rfl (fun ls hl => ?_)
      obtain ⟨x_6, ex_6⟩ : ∃ y : Int32, y = L4l2 + 1 := ⟨_, rfl⟩
      have zx_6 : x_6.toInt = L4l2.toInt + 1 := by rw [ex_6]; exact z_add rfl rfl (by omega) (by omega)
      refine lv_iinc (v := x_6) (lv' := [(2, .int x_6), (1, .int L4l2), (0, .ref mo)]) hx hb dX12_winner_44 hl (k := 2) rfl (by rw [ex_6]; rfl) (by decide) rfl (fun ls hl => ?_)
      refine lv_goto (tgt := 4) hx hb dX12_winner_47 (by decide) ?_
      exact ih_1 _ _ _ _ (by omega) ⟨L4l2, x_6, rfl, (show (-1) ≤ L4l2.toInt ∧ L4l2.toInt ≤ 5 from by omega), (show 0 ≤ x_6.toInt ∧ x_6.toInt ≤ 6 from by omega), hP.sub (ws' := [(mo, .inr (12, [.int v0, .ref m1, .ref m2, .ref m3, .ref m4, .ref m5, .int v6, .int v7, .int v8, .int v9, .int v10, .long v11, .int v12, .int v13, .int v14, .int v15, .ref m16, .ref m17, .ref m18, .ref m19, .ref m20, .ref m21, .ref m22, .ref m23, .int v24, .ref m25, .ref m26, .ref m27, .ref m28, .ref m29, .int v30, .ref m31, .ref m32, .ref m33, .int v34, .int v35, .int v36, .ref m37, .ref m38, .ref m39, .ref m40, .long v41])), (m17, .inl (k 0, 30, .inl f17)), (m20, .inl (k 0, 120, .inl f20))]) [0, 1, 2] rfl, hD.sub (ws' := [(mo, .inr (12, [.int v0, .ref m1, .ref m2, .ref m3, .ref m4, .ref m5, .int v6, .int v7, .int v8, .int v9, .int v10, .long v11, .int v12, .int v13, .int v14, .int v15, .ref m16, .ref m17, .ref m18, .ref m19, .ref m20, .ref m21, .ref m22, .ref m23, .int v24, .ref m25, .ref m26, .ref m27, .ref m28, .ref m29, .int v30, .ref m31, .ref m32, .ref m33, .int v34, .int v35, .int v36, .ref m37, .ref m38, .ref m39, .ref m40, .long v41])), (m17, .inl (k 0, 30, .inl f17)), (m20, .inl (k 0, 120, .inl f20))]) [0, 1, 2] (by decide) rfl, hS, lv_sub hl [2, 1, 0] rfl⟩
    · skip
      have zh_5 : ¬ L4l1.toInt = (-1) := z_ne h_5
      refine lv_aload_n hx hb dX12_winner_19 rfl (lv_at hl 0 rfl) ?_
      refine va_get (D := D) (ci := 12) (v := .ref m20) (C := RX12) (T := TX12) (N := 42) hx hb hts iT_X12 hown hK hP 0 rfl rfl 20 (by decide) (hts _ tw_6_73) (fun _ h9 => h9) rfl dX12_winner_20 ?_
      refine lv_iconst (v := 4) hx hb dX12_winner_23 (by decide) ?_
      refine lv_iload_n hx hb dX12_winner_24 rfl (lv_at hl 2 rfl) ?_
      refine lv_imul hx hb dX12_winner_25 ?_
      refine lv_topi (fun x_7 ex_7 => ?_)
      have zx_7 : x_7.toInt = 4 * L4l2.toInt := by rw [ex_7]; exact z_mul rfl rfl (by omega) (by omega)
      refine lv_iconst (v := 2) hx hb dX12_winner_26 (by decide) ?_
      refine lv_iadd hx hb dX12_winner_27 ?_
      refine lv_topi (fun x_8 ex_8 => ?_)
      have zx_8 : x_8.toInt = x_7.toInt + 2 := by rw [ex_8]; exact z_add rfl rfl (by omega) (by omega)
      refine va_iald hx hb hK hP 2 0 rfl rfl (z_in (by omega) (by omega)) dX12_winner_28 ?_
      refine lv_topi (fun x_9 ex_9 => ?_)
      refine lv_aload_n hx hb dX12_winner_29 rfl (lv_at hl 0 rfl) ?_
      refine va_get (D := D) (ci := 12) (v := .ref m20) (C := RX12) (T := TX12) (N := 42) hx hb hts iT_X12 hown hK hP 0 rfl rfl 20 (by decide) (hts _ tw_6_73) (fun _ h9 => h9) rfl dX12_winner_30 ?_
      refine lv_iconst (v := 4) hx hb dX12_winner_33 (by decide) ?_
      refine lv_iload_n hx hb dX12_winner_34 rfl (lv_at hl 1 rfl) ?_
      refine lv_imul hx hb dX12_winner_35 ?_
      refine lv_topi (fun x_10 ex_10 => ?_)
      have zx_10 : x_10.toInt = 4 * L4l1.toInt := by rw [ex_10]; exact z_mul rfl rfl (by omega) (by omega)
      refine lv_iconst (v := 2) hx hb dX12_winner_36 (by decide) ?_
      refine lv_iadd hx hb dX12_winner_37 ?_
      refine lv_topi (fun x_11 ex_11 => ?_)
      have zx_11 : x_11.toInt = x_10.toInt + 2 := by rw [ex_11]; exact z_add rfl rfl (by omega) (by omega)
      refine va_iald hx hb hK hP 2 0 rfl rfl (z_in (by omega) (by omega)) dX12_winner_38 ?_
      refine lv_topi (fun x_12 ex_12 => ?_)
      refine lv_icmp_le (tgt := 44) hx hb dX12_winner_39 (by decide) (fun h_13 => ?_) (fun h_13 => ?_)
      · skip
        have zh_13 : x_9.toInt ≤ x_12.toInt := z_le h_13
        obtain ⟨x_14, ex_14⟩ : ∃ y : Int32, y = L4l2 + 1 := ⟨_, rfl⟩
        have zx_14 : x_14.toInt = L4l2.toInt + 1 := by rw [ex_14]; exact z_add rfl rfl (by omega) (by omega)
        refine lv_iinc (v := x_14) (lv' := [(2, .int x_14), (0, .ref mo), (1, .int L4l1)]) hx hb dX12_winner_44 hl (k := 2) rfl (by rw [ex_14]; rfl) (by decide) rfl (fun ls hl => ?_)
        refine lv_goto (tgt := 4) hx hb dX12_winner_47 (by decide) ?_
        exact ih_1 _ _ _ _ (by omega) ⟨L4l1, x_14, rfl, (show (-1) ≤ L4l1.toInt ∧ L4l1.toInt ≤ 5 from by omega), (show 0 ≤ x_14.toInt ∧ x_14.toInt ≤ 6 from by omega), hP.sub (ws' := [(mo, .inr (12, [.int v0, .ref m1, .ref m2, .ref m3, .ref m4, .ref m5, .int v6, .int v7, .int v8, .int v9, .int v10, .long v11, .int v12, .int v13, .int v14, .int v15, .ref m16, .ref m17, .ref m18, .ref m19, .ref m20, .ref m21, .ref m22, .ref m23, .int v24, .ref m25, .ref m26, .ref m27, .ref m28, .ref m29, .int v30, .ref m31, .ref m32, .ref m33, .int v34, .int v35, .int v36, .ref m37, .ref m38, .ref m39, .ref m40, .long v41])), (m17, .inl (k 0, 30, .inl f17)), (m20, .inl (k 0, 120, .inl f20))]) [0, 1, 2] rfl, hD.sub (ws' := [(mo, .inr (12, [.int v0, .ref m1, .ref m2, .ref m3, .ref m4, .ref m5, .int v6, .int v7, .int v8, .int v9, .int v10, .long v11, .int v12, .int v13, .int v14, .int v15, .ref m16, .ref m17, .ref m18, .ref m19, .ref m20, .ref m21, .ref m22, .ref m23, .int v24, .ref m25, .ref m26, .ref m27, .ref m28, .ref m29, .int v30, .ref m31, .ref m32, .ref m33, .int v34, .int v35, .int v36, .ref m37, .ref m38, .ref m39, .ref m40, .long v41])), (m17, .inl (k 0, 30, .inl f17)), (m20, .inl (k 0, 120, .inl f20))]) [0, 1, 2] (by decide) rfl, hS, lv_sub hl [1, 2, 0] rfl⟩
      · skip
        have zh_13 : x_12.toInt < x_9.toInt := z_nle h_13
        refine lv_iload_n hx hb dX12_winner_42 rfl (lv_at hl 2 rfl) ?_
        refine lv_istore_n (lv' := [(1, .int L4l2), (0, .ref mo), (2, .int L4l2)]) hx hb dX12_winner_43 rfl hl (by decide) rfl (fun ls hl => ?_)
        obtain ⟨x_15, ex_15⟩ : ∃ y : Int32, y = L4l2 + 1 := ⟨_, rfl⟩
        have zx_15 : x_15.toInt = L4l2.toInt + 1 := by rw [ex_15]; exact z_add rfl rfl (by omega) (by omega)
        refine lv_iinc (v := x_15) (lv' := [(2, .int x_15), (1, .int L4l2), (0, .ref mo)]) hx hb dX12_winner_44 hl (k := 2) rfl (by rw [ex_15]; rfl) (by decide) rfl (fun ls hl => ?_)
        refine lv_goto (tgt := 4) hx hb dX12_winner_47 (by decide) ?_
        exact ih_1 _ _ _ _ (by omega) ⟨L4l2, x_15, rfl, (show (-1) ≤ L4l2.toInt ∧ L4l2.toInt ≤ 5 from by omega), (show 0 ≤ x_15.toInt ∧ x_15.toInt ≤ 6 from by omega), hP.sub (ws' := [(mo, .inr (12, [.int v0, .ref m1, .ref m2, .ref m3, .ref m4, .ref m5, .int v6, .int v7, .int v8, .int v9, .int v10, .long v11, .int v12, .int v13, .int v14, .int v15, .ref m16, .ref m17, .ref m18, .ref m19, .ref m20, .ref m21, .ref m22, .ref m23, .int v24, .ref m25, .ref m26, .ref m27, .ref m28, .ref m29, .int v30, .ref m31, .ref m32, .ref m33, .int v34, .int v35, .int v36, .ref m37, .ref m38, .ref m39, .ref m40, .long v41])), (m17, .inl (k 0, 30, .inl f17)), (m20, .inl (k 0, 120, .inl f20))]) [0, 1, 2] rfl, hD.sub (ws' := [(mo, .inr (12, [.int v0, .ref m1, .ref m2, .ref m3, .ref m4, .ref m5, .int v6, .int v7, .int v8, .int v9, .int v10, .long v11, .int v12, .int v13, .int v14, .int v15, .ref m16, .ref m17, .ref m18, .ref m19, .ref m20, .ref m21, .ref m22, .ref m23, .int v24, .ref m25, .ref m26, .ref m27, .ref m28, .ref m29, .int v30, .ref m31, .ref m32, .ref m33, .int v34, .int v35, .int v36, .ref m37, .ref m38, .ref m39, .ref m40, .long v41])), (m17, .inl (k 0, 30, .inl f17)), (m20, .inl (k 0, 120, .inl f20))]) [0, 1, 2] (by decide) rfl, hS, lv_sub hl [2, 1, 0] rfl⟩
set_option maxHeartbeats 4000000 in
set_option maxRecDepth 100000 in
theorem c_X12_wins (l : Launch) (D : va_G) (k : Nat → ClassId) (mo : Nat) (v0 : Int32) (m1 : Nat) (m2 : Nat) (m3 : Nat) (m4 : Nat) (m5 : Nat) (v6 : Int32) (v7 : Int32) (v8 : Int32) (v9 : Int32) (v10 : Int32) (v11 : Int64) (v12 : Int32) (v13 : Int32) (v14 : Int32) (v15 : Int32) (m16 : Nat) (m17 : Nat) (m18 : Nat) (m19 : Nat) (m20 : Nat) (m21 : Nat) (m22 : Nat) (m23 : Nat) (v24 : Int32) (m25 : Nat) (m26 : Nat) (m27 : Nat) (m28 : Nat) (m29 : Nat) (v30 : Int32) (m31 : Nat) (m32 : Nat) (m33 : Nat) (v34 : Int32) (v35 : Int32) (v36 : Int32) (m37 : Nat) (m38 : Nat) (m39 : Nat) (m40 : Nat) (v41 : Int64) (f16 : Nat → Int32) (f17 : Nat → Int32) (f20 : Nat → Int32) (sz : Nat) (h_v6 : 0 ≤ v6.toInt ∧ v6.toInt ≤ 1000) (h_v24 : 0 ≤ v24.toInt ∧ v24.toInt ≤ 1023) (hp_f17_0 : PR 30 6 0 0 8 f17) (hp_f17_1 : PR 30 6 1 0 10 f17) (hp_f17_2 : PR 30 6 2 0 4 f17) (hp_f17_3 : PR 30 6 3 0 6 f17) (hp_f17_4 : PR 30 6 4 0 2 f17) (hp_f17_5 : PR 30 6 5 0 40 f17) (hp_f20_0 : PR 120 4 0 0 7 f20) : Met l yX12_wins (ww yX12_wins cX12_wins 1 (some .int)) ({ frames := 1, cells := 0, slots := 0, locals := 22 }) (Pre0 D k [(mo, .inr (12, [.int v0, .ref m1, .ref m2, .ref m3, .ref m4, .ref m5, .int v6, .int v7, .int v8, .int v9, .int v10, .long v11, .int v12, .int v13, .int v14, .int v15, .ref m16, .ref m17, .ref m18, .ref m19, .ref m20, .ref m21, .ref m22, .ref m23, .int v24, .ref m25, .ref m26, .ref m27, .ref m28, .ref m29, .int v30, .ref m31, .ref m32, .ref m33, .int v34, .int v35, .int v36, .ref m37, .ref m38, .ref m39, .ref m40, .long v41])), (m16, .inl (k 0, 5, .inl f16)), (m17, .inl (k 0, 30, .inl f17)), (m20, .inl (k 0, 120, .inl f20))] sz [.ref mo]) (va_Qi (fun (r : Int32) (v0z : Int32) => ((-2) ≤ r.toInt ∧ r.toInt ≤ 5) ∧ (0 ≤ v0z.toInt ∧ v0z.toInt ≤ 0)) (fun (v0z : Int32) tZ => Bw D k (va_A [(mo, .inr (12, [.int v0, .ref m1, .ref m2, .ref m3, .ref m4, .ref m5, .int v6, .int v7, .int v8, .int v9, .int v10, .long v11, .int v12, .int v13, .int v14, .int v15, .ref m16, .ref m17, .ref m18, .ref m19, .ref m20, .ref m21, .ref m22, .ref m23, .int v24, .ref m25, .ref m26, .ref m27, .ref m28, .ref m29, .int v30, .ref m31, .ref m32, .ref m33, .int v34, .int v35, .int v36, .ref m37, .ref m38, .ref m39, .ref m40, .long v41])), (m16, .inl (k 0, 5, .inl f16)), (m17, .inl (k 0, 30, .inl f17)), (m20, .inl (k 0, 120, .inl f20))] sz) [(mo, .inr (12, [.int v0z, .ref m1, .ref m2, .ref m3, .ref m4, .ref m5, .int v6, .int v7, .int v8, .int v9, .int v10, .long v11, .int v12, .int v13, .int v14, .int v15, .ref m16, .ref m17, .ref m18, .ref m19, .ref m20, .ref m21, .ref m22, .ref m23, .int v24, .ref m25, .ref m26, .ref m27, .ref m28, .ref m29, .int v30, .ref m31, .ref m32, .ref m33, .int v34, .int v35, .int v36, .ref m37, .ref m38, .ref m39, .ref m40, .long v41])), (m16, .inl (k 0, 5, .inl f16)), (m17, .inl (k 0, 30, .inl f17)), (m20, .inl (k 0, 120, .inl f20))] tZ) (va_A [(mo, .inr (12, [.int v0, .ref m1, .ref m2, .ref m3, .ref m4, .ref m5, .int v6, .int v7, .int v8, .int v9, .int v10, .long v11, .int v12, .int v13, .int v14, .int v15, .ref m16, .ref m17, .ref m18, .ref m19, .ref m20, .ref m21, .ref m22, .ref m23, .int v24, .ref m25, .ref m26, .ref m27, .ref m28, .ref m29, .int v30, .ref m31, .ref m32, .ref m33, .int v34, .int v35, .int v36, .ref m37, .ref m38, .ref m39, .ref m40, .long v41])), (m16, .inl (k 0, 5, .inl f16)), (m17, .inl (k 0, 30, .inl f17)), (m20, .inl (k 0, 120, .inl f20))] sz)) 0 0 (va_A [(mo, .inr (12, [.int v0, .ref m1, .ref m2, .ref m3, .ref m4, .ref m5, .int v6, .int v7, .int v8, .int v9, .int v10, .long v11, .int v12, .int v13, .int v14, .int v15, .ref m16, .ref m17, .ref m18, .ref m19, .ref m20, .ref m21, .ref m22, .ref m23, .int v24, .ref m25, .ref m26, .ref m27, .ref m28, .ref m29, .int v30, .ref m31, .ref m32, .ref m33, .int v34, .int v35, .int v36, .ref m37, .ref m38, .ref m39, .ref m40, .long v41])), (m16, .inl (k 0, 5, .inl f16)), (m17, .inl (k 0, 30, .inl f17)), (m20, .inl (k 0, 120, .inl f20))] sz) := by
  refine Met.ofW (cc := cX12_wins) (maxL := 1) (ret := (some .int)) (by decide +kernel) rfl ?_
  intro p e s m args below meth c s₁ B hml hv
  obtain ⟨rfl, hsz, hP, hK, hD0, hN⟩ := hv
  have hx := B.exec
  have hb := B.bytes
  have hr := B.returns
  have hts : ∀ w ∈ TT, w.before _ s = true := fun w h => atoms_spec (ws := ww yX12_wins cX12_wins 1 (some .int)) B.pre w (List.mem_cons_of_mem _ h)
  have hown : s.vm.findClass RX12 = some m.cls := findClass_of_methodNamed B.named
  have hlocks := B.notSynchronized
  subst hsz
  have hD := hD0.self (sz := s.heap.size)
  generalize hAe : va_A [(mo, .inr (12, [.int v0, .ref m1, .ref m2, .ref m3, .ref m4, .ref m5, .int v6, .int v7, .int v8, .int v9, .int v10, .long v11, .int v12, .int v13, .int v14, .int v15, .ref m16, .ref m17, .ref m18, .ref m19, .ref m20, .ref m21, .ref m22, .ref m23, .int v24, .ref m25, .ref m26, .ref m27, .ref m28, .ref m29, .int v30, .ref m31, .ref m32, .ref m33, .int v34, .int v35, .int v36, .ref m37, .ref m38, .ref m39, .ref m40, .long v41])), (m16, .inl (k 0, 5, .inl f16)), (m17, .inl (k 0, 30, .inl f17)), (m20, .inl (k 0, 120, .inl f20))] s.heap.size = A at hD ⊢
  have hA : ∀ q : Nat, s.heap.size ≤ q → A q := fun q h => by rw [← hAe]; exact Or.inr h
  have hS : va_S A s.heap s.heap [] := va_S.rf
  have hl := lv_entry ([.ref mo]) (n := 1) (Nat.le_of_ble_eq_true rfl)
  rw [lg_entry_eq]
  generalize (lg_sl ([.ref mo]) ++ List.replicate (1 - (lg_sl ([.ref mo])).length) Slot.unset).toArray = ls at hl ⊢
  have hl : lv_has ls 1 [(0, .ref mo)] := hl
  refine lv_aload_n hx hb dX12_wins_0 rfl (lv_at hl 0 rfl) ?_
  refine lv_iconst (v := 0) hx hb dX12_wins_1 (by decide) ?_
  refine va_put (D := D) (ci := 12) (v := .int 0) (ty := tyX12 0) (C := RX12) (T := TX12) (N := 42) hx hb hts iT_X12 tyX12 tyX12_ok nmX12 hown hK hP hD hS 0 rfl rfl 0 (by decide) (hts _ tw_6_53) (fun _ h9 => h9) rfl (tyX12_ok 0 (by decide)) rfl rfl (Nat.le_of_ble_eq_true rfl) dX12_wins_2 (fun H locs hP hD hS => ?_)
  have hP : va_P D vwCl [(mo, .inr (12, [.int 0, .ref m1, .ref m2, .ref m3, .ref m4, .ref m5, .int v6, .int v7, .int v8, .int v9, .int v10, .long v11, .int v12, .int v13, .int v14, .int v15, .ref m16, .ref m17, .ref m18, .ref m19, .ref m20, .ref m21, .ref m22, .ref m23, .int v24, .ref m25, .ref m26, .ref m27, .ref m28, .ref m29, .int v30, .ref m31, .ref m32, .ref m33, .int v34, .int v35, .int v36, .ref m37, .ref m38, .ref m39, .ref m40, .long v41])), (m16, .inl (k 0, 5, .inl f16)), (m17, .inl (k 0, 30, .inl f17)), (m20, .inl (k 0, 120, .inl f20))] H := hP
  have hD : va_D A [(mo, .inr (12, [.int 0, .ref m1, .ref m2, .ref m3, .ref m4, .ref m5, .int v6, .int v7, .int v8, .int v9, .int v10, .long v11, .int v12, .int v13, .int v14, .int v15, .ref m16, .ref m17, .ref m18, .ref m19, .ref m20, .ref m21, .ref m22, .ref m23, .int v24, .ref m25, .ref m26, .ref m27, .ref m28, .ref m29, .int v30, .ref m31, .ref m32, .ref m33, .int v34, .int v35, .int v36, .ref m37, .ref m38, .ref m39, .ref m40, .long v41])), (m16, .inl (k 0, 5, .inl f16)), (m17, .inl (k 0, 30, .inl f17)), (m20, .inl (k 0, 120, .inl f20))] := hD
  refine lv_aload_n hx hb dX12_wins_5 rfl (lv_at hl 0 rfl) ?_
  have hPc := hP.sub (ws' := [(mo, .inr (12, [.int 0, .ref m1, .ref m2, .ref m3, .ref m4, .ref m5, .int v6, .int v7, .int v8, .int v9, .int v10, .long v11, .int v12, .int v13, .int v14, .int v15, .ref m16, .ref m17, .ref m18, .ref m19, .ref m20, .ref m21, .ref m22, .ref m23, .int v24, .ref m25, .ref m26, .ref m27, .ref m28, .ref m29, .int v30, .ref m31, .ref m32, .ref m33, .int v34, .int v35, .int v36, .ref m37, .ref m38, .ref m39, .ref m40, .long v41])), (m16, .inl (k 0, 5, .inl f16))]) [0, 1] rfl
  have hDc := hD.sub (ws' := [(mo, .inr (12, [.int 0, .ref m1, .ref m2, .ref m3, .ref m4, .ref m5, .int v6, .int v7, .int v8, .int v9, .int v10, .long v11, .int v12, .int v13, .int v14, .int v15, .ref m16, .ref m17, .ref m18, .ref m19, .ref m20, .ref m21, .ref m22, .ref m23, .int v24, .ref m25, .ref m26, .ref m27, .ref m28, .ref m29, .int v30, .ref m31, .ref m32, .ref m33, .int v34, .int v35, .int v36, .ref m37, .ref m38, .ref m39, .ref m40, .long v41])), (m16, .inl (k 0, 5, .inl f16))]) [0, 1] (by decide) rfl
  have hFc := va_free (wc := [(mo, .inr (12, [.int 0, .ref m1, .ref m2, .ref m3, .ref m4, .ref m5, .int v6, .int v7, .int v8, .int v9, .int v10, .long v11, .int v12, .int v13, .int v14, .int v15, .ref m16, .ref m17, .ref m18, .ref m19, .ref m20, .ref m21, .ref m22, .ref m23, .int v24, .ref m25, .ref m26, .ref m27, .ref m28, .ref m29, .int v30, .ref m31, .ref m32, .ref m33, .int v34, .int v35, .int v36, .ref m37, .ref m38, .ref m39, .ref m40, .long v41])), (m16, .inl (k 0, 5, .inl f16))]) hD hS hA [0, 1] rfl
  refine va_calli (va_runV (C := RX12) (As := []) (rest := []) ⟨hx, hb, hml, hown, hts⟩ (c_X12_isTown l D k mo 0 m1 m2 m3 m4 m5 v6 v7 v8 v9 v10 v11 v12 v13 v14 v15 m16 m17 m18 m19 m20 m21 m22 m23 v24 m25 m26 m27 m28 m29 v30 m31 m32 m33 v34 v35 v36 m37 m38 m39 m40 v41 f16 H.size (show 0 ≤ v6.toInt ∧ v6.toInt ≤ 1000 from by omega) (show 0 ≤ v24.toInt ∧ v24.toInt ≤ 1023 from by omega)) (cwV 0 hts (gV tw_7_181 tw_7_183 tw_p_71 tw_1_13 tw_7_184) rfl rfl rfl hdV_X12_isTown ⟨Nat.le_of_ble_eq_true rfl, Nat.le_of_ble_eq_true rfl⟩) (cz_V hK hPc hDc hN (ci := 12) (q0 := 0) rfl rfl []) rfl rfl hl.1 rfl (lv_room (Nat.le_of_ble_eq_true rfl)) dX12_wins_6 ⟨Nat.le_of_ble_eq_true rfl, Nat.le_of_ble_eq_true rfl⟩) hS (fun q _ h => hFc q h) hFc (fun r_1 uZ tZ H1 locs ht hvm hw hB hz1 hk1 hS => ?_)
  obtain ⟨hP1, hK1, hD1⟩ := hB
  rw [ht] at hP1
  obtain ⟨hP, hD⟩ := va_join (wr := [(m17, .inl (k 0, 30, .inl f17)), (m20, .inl (k 0, 120, .inl f20))]) (w1 := [(mo, .inr (12, [.int 0, .ref m1, .ref m2, .ref m3, .ref m4, .ref m5, .int v6, .int v7, .int v8, .int v9, .int v10, .long v11, .int v12, .int v13, .int v14, .int v15, .ref m16, .ref m17, .ref m18, .ref m19, .ref m20, .ref m21, .ref m22, .ref m23, .int v24, .ref m25, .ref m26, .ref m27, .ref m28, .ref m29, .int v30, .ref m31, .ref m32, .ref m33, .int v34, .int v35, .int v36, .ref m37, .ref m38, .ref m39, .ref m40, .long v41])), (m16, .inl (k 0, 5, .inl f16))]) hP hD [0, 1] [2, 3] rfl rfl (by decide) (by decide) hk1 hFc hP1 hD1
  clear hK1 hP1 hD1 hPc hDc hFc
  clear hk1 hz1 ht hvm
  have hP : va_P D vwCl [(m17, .inl (k 0, 30, .inl f17)), (m20, .inl (k 0, 120, .inl f20)), (mo, .inr (12, [.int 0, .ref m1, .ref m2, .ref m3, .ref m4, .ref m5, .int v6, .int v7, .int v8, .int v9, .int v10, .long v11, .int v12, .int v13, .int v14, .int v15, .ref m16, .ref m17, .ref m18, .ref m19, .ref m20, .ref m21, .ref m22, .ref m23, .int v24, .ref m25, .ref m26, .ref m27, .ref m28, .ref m29, .int v30, .ref m31, .ref m32, .ref m33, .int v34, .int v35, .int v36, .ref m37, .ref m38, .ref m39, .ref m40, .long v41])), (m16, .inl (k 0, 5, .inl f16))] H1 := hP
  have hD : va_D A [(m17, .inl (k 0, 30, .inl f17)), (m20, .inl (k 0, 120, .inl f20)), (mo, .inr (12, [.int 0, .ref m1, .ref m2, .ref m3, .ref m4, .ref m5, .int v6, .int v7, .int v8, .int v9, .int v10, .long v11, .int v12, .int v13, .int v14, .int v15, .ref m16, .ref m17, .ref m18, .ref m19, .ref m20, .ref m21, .ref m22, .ref m23, .int v24, .ref m25, .ref m26, .ref m27, .ref m28, .ref m29, .int v30, .ref m31, .ref m32, .ref m33, .int v34, .int v35, .int v36, .ref m37, .ref m38, .ref m39, .ref m40, .long v41])), (m16, .inl (k 0, 5, .inl f16))] := hD
  generalize H1 = H at hP hS ⊢
  have hw_2 : (0 ≤ r_1.toInt ∧ r_1.toInt ≤ 1) := hw
  have hw_3 := hw_2
  clear hw
  refine lv_if_eq (tgt := 19) hx hb dX12_wins_9 (by decide) (fun h_4 => ?_) (fun h_4 => ?_)
  · skip
    have zh_4 : r_1.toInt = 0 := z_eq h_4
    refine lv_bipush (v := (-2)) hx hb dX12_wins_19 (by decide) ?_
    have hP9 := hP.sub (ws' := [(mo, .inr (12, [.int 0, .ref m1, .ref m2, .ref m3, .ref m4, .ref m5, .int v6, .int v7, .int v8, .int v9, .int v10, .long v11, .int v12, .int v13, .int v14, .int v15, .ref m16, .ref m17, .ref m18, .ref m19, .ref m20, .ref m21, .ref m22, .ref m23, .int v24, .ref m25, .ref m26, .ref m27, .ref m28, .ref m29, .int v30, .ref m31, .ref m32, .ref m33, .int v34, .int v35, .int v36, .ref m37, .ref m38, .ref m39, .ref m40, .long v41])), (m16, .inl (k 0, 5, .inl f16)), (m17, .inl (k 0, 30, .inl f17)), (m20, .inl (k 0, 120, .inl f20))]) [2, 3, 0, 1] rfl
    have hD9 := hD.sub (ws' := [(mo, .inr (12, [.int 0, .ref m1, .ref m2, .ref m3, .ref m4, .ref m5, .int v6, .int v7, .int v8, .int v9, .int v10, .long v11, .int v12, .int v13, .int v14, .int v15, .ref m16, .ref m17, .ref m18, .ref m19, .ref m20, .ref m21, .ref m22, .ref m23, .int v24, .ref m25, .ref m26, .ref m27, .ref m28, .ref m29, .int v30, .ref m31, .ref m32, .ref m33, .int v34, .int v35, .int v36, .ref m37, .ref m38, .ref m39, .ref m40, .long v41])), (m16, .inl (k 0, 5, .inl f16)), (m17, .inl (k 0, 30, .inl f17)), (m20, .inl (k 0, 120, .inl f20))]) [2, 3, 0, 1] (by decide) rfl
    exact W.iret (v := (-2)) hx hb hr (fun tZ ht hW => ⟨⟨(-2), 0, rfl, ⟨(show (-2) ≤ (-2) ∧ (-2) ≤ 5 from by omega), (show 0 ≤ 0 ∧ 0 ≤ 0 from by omega)⟩, by rw [ht]; exact hP9, va_K.moved hW.alike hK, hD9⟩, hS.F ht⟩) hS.2.2 dX12_wins_21
  · skip
    have zh_4 : ¬ r_1.toInt = 0 := z_ne h_4
    refine lv_aload_n hx hb dX12_wins_12 rfl (lv_at hl 0 rfl) ?_
    have hPc := hP.sub (ws' := [(mo, .inr (12, [.int 0, .ref m1, .ref m2, .ref m3, .ref m4, .ref m5, .int v6, .int v7, .int v8, .int v9, .int v10, .long v11, .int v12, .int v13, .int v14, .int v15, .ref m16, .ref m17, .ref m18, .ref m19, .ref m20, .ref m21, .ref m22, .ref m23, .int v24, .ref m25, .ref m26, .ref m27, .ref m28, .ref m29, .int v30, .ref m31, .ref m32, .ref m33, .int v34, .int v35, .int v36, .ref m37, .ref m38, .ref m39, .ref m40, .long v41])), (m17, .inl (k 0, 30, .inl f17)), (m20, .inl (k 0, 120, .inl f20))]) [2, 0, 1] rfl
    have hDc := hD.sub (ws' := [(mo, .inr (12, [.int 0, .ref m1, .ref m2, .ref m3, .ref m4, .ref m5, .int v6, .int v7, .int v8, .int v9, .int v10, .long v11, .int v12, .int v13, .int v14, .int v15, .ref m16, .ref m17, .ref m18, .ref m19, .ref m20, .ref m21, .ref m22, .ref m23, .int v24, .ref m25, .ref m26, .ref m27, .ref m28, .ref m29, .int v30, .ref m31, .ref m32, .ref m33, .int v34, .int v35, .int v36, .ref m37, .ref m38, .ref m39, .ref m40, .long v41])), (m17, .inl (k 0, 30, .inl f17)), (m20, .inl (k 0, 120, .inl f20))]) [2, 0, 1] (by decide) rfl
    have hFc := va_free (wc := [(mo, .inr (12, [.int 0, .ref m1, .ref m2, .ref m3, .ref m4, .ref m5, .int v6, .int v7, .int v8, .int v9, .int v10, .long v11, .int v12, .int v13, .int v14, .int v15, .ref m16, .ref m17, .ref m18, .ref m19, .ref m20, .ref m21, .ref m22, .ref m23, .int v24, .ref m25, .ref m26, .ref m27, .ref m28, .ref m29, .int v30, .ref m31, .ref m32, .ref m33, .int v34, .int v35, .int v36, .ref m37, .ref m38, .ref m39, .ref m40, .long v41])), (m17, .inl (k 0, 30, .inl f17)), (m20, .inl (k 0, 120, .inl f20))]) hD hS hA [2, 0, 1] rfl
    refine va_calli (va_runV (C := RX12) (As := []) (rest := []) ⟨hx, hb, hml, hown, hts⟩ (c_X12_winner l D k mo 0 m1 m2 m3 m4 m5 v6 v7 v8 v9 v10 v11 v12 v13 v14 v15 m16 m17 m18 m19 m20 m21 m22 m23 v24 m25 m26 m27 m28 m29 v30 m31 m32 m33 v34 v35 v36 m37 m38 m39 m40 v41 f17 f20 H.size (show 0 ≤ v6.toInt ∧ v6.toInt ≤ 1000 from by omega) (show 0 ≤ v24.toInt ∧ v24.toInt ≤ 1023 from by omega) hp_f17_0 hp_f17_1 hp_f17_2 hp_f17_3 hp_f17_4 hp_f17_5 hp_f20_0) (cwV 0 hts (gV tw_8_158 tw_8_160 tw_p_91 tw_1_13 tw_8_161) rfl rfl rfl hdV_X12_winner ⟨Nat.le_of_ble_eq_true rfl, Nat.le_of_ble_eq_true rfl⟩) (cz_V hK hPc hDc hN (ci := 12) (q0 := 0) rfl rfl []) rfl rfl hl.1 rfl (lv_room (Nat.le_of_ble_eq_true rfl)) dX12_wins_13 ⟨Nat.le_of_ble_eq_true rfl, Nat.le_of_ble_eq_true rfl⟩) hS (fun q _ h => hFc q h) hFc (fun r_5 uZ tZ H1 locs ht hvm hw hB hz1 hk1 hS => ?_)
    obtain ⟨hP1, hK1, hD1⟩ := hB
    rw [ht] at hP1
    obtain ⟨hP, hD⟩ := va_join (wr := [(m16, .inl (k 0, 5, .inl f16))]) (w1 := [(mo, .inr (12, [.int 0, .ref m1, .ref m2, .ref m3, .ref m4, .ref m5, .int v6, .int v7, .int v8, .int v9, .int v10, .long v11, .int v12, .int v13, .int v14, .int v15, .ref m16, .ref m17, .ref m18, .ref m19, .ref m20, .ref m21, .ref m22, .ref m23, .int v24, .ref m25, .ref m26, .ref m27, .ref m28, .ref m29, .int v30, .ref m31, .ref m32, .ref m33, .int v34, .int v35, .int v36, .ref m37, .ref m38, .ref m39, .ref m40, .long v41])), (m17, .inl (k 0, 30, .inl f17)), (m20, .inl (k 0, 120, .inl f20))]) hP hD [2, 0, 1] [3] rfl rfl (by decide) (by decide) hk1 hFc hP1 hD1
    clear hK1 hP1 hD1 hPc hDc hFc
    clear hk1 hz1 ht hvm
    have hP : va_P D vwCl [(m16, .inl (k 0, 5, .inl f16)), (mo, .inr (12, [.int 0, .ref m1, .ref m2, .ref m3, .ref m4, .ref m5, .int v6, .int v7, .int v8, .int v9, .int v10, .long v11, .int v12, .int v13, .int v14, .int v15, .ref m16, .ref m17, .ref m18, .ref m19, .ref m20, .ref m21, .ref m22, .ref m23, .int v24, .ref m25, .ref m26, .ref m27, .ref m28, .ref m29, .int v30, .ref m31, .ref m32, .ref m33, .int v34, .int v35, .int v36, .ref m37, .ref m38, .ref m39, .ref m40, .long v41])), (m17, .inl (k 0, 30, .inl f17)), (m20, .inl (k 0, 120, .inl f20))] H1 := hP
    have hD : va_D A [(m16, .inl (k 0, 5, .inl f16)), (mo, .inr (12, [.int 0, .ref m1, .ref m2, .ref m3, .ref m4, .ref m5, .int v6, .int v7, .int v8, .int v9, .int v10, .long v11, .int v12, .int v13, .int v14, .int v15, .ref m16, .ref m17, .ref m18, .ref m19, .ref m20, .ref m21, .ref m22, .ref m23, .int v24, .ref m25, .ref m26, .ref m27, .ref m28, .ref m29, .int v30, .ref m31, .ref m32, .ref m33, .int v34, .int v35, .int v36, .ref m37, .ref m38, .ref m39, .ref m40, .long v41])), (m17, .inl (k 0, 30, .inl f17)), (m20, .inl (k 0, 120, .inl f20))] := hD
    generalize H1 = H at hP hS ⊢
    have hw_6 : ((-1) ≤ r_5.toInt ∧ r_5.toInt ≤ 5) := hw
    have hw_7 := hw_6
    clear hw
    refine lv_goto (tgt := 21) hx hb dX12_wins_16 (by decide) ?_
    have hP9 := hP.sub (ws' := [(mo, .inr (12, [.int 0, .ref m1, .ref m2, .ref m3, .ref m4, .ref m5, .int v6, .int v7, .int v8, .int v9, .int v10, .long v11, .int v12, .int v13, .int v14, .int v15, .ref m16, .ref m17, .ref m18, .ref m19, .ref m20, .ref m21, .ref m22, .ref m23, .int v24, .ref m25, .ref m26, .ref m27, .ref m28, .ref m29, .int v30, .ref m31, .ref m32, .ref m33, .int v34, .int v35, .int v36, .ref m37, .ref m38, .ref m39, .ref m40, .long v41])), (m16, .inl (k 0, 5, .inl f16)), (m17, .inl (k 0, 30, .inl f17)), (m20, .inl (k 0, 120, .inl f20))]) [1, 0, 2, 3] rfl
    have hD9 := hD.sub (ws' := [(mo, .inr (12, [.int 0, .ref m1, .ref m2, .ref m3, .ref m4, .ref m5, .int v6, .int v7, .int v8, .int v9, .int v10, .long v11, .int v12, .int v13, .int v14, .int v15, .ref m16, .ref m17, .ref m18, .ref m19, .ref m20, .ref m21, .ref m22, .ref m23, .int v24, .ref m25, .ref m26, .ref m27, .ref m28, .ref m29, .int v30, .ref m31, .ref m32, .ref m33, .int v34, .int v35, .int v36, .ref m37, .ref m38, .ref m39, .ref m40, .long v41])), (m16, .inl (k 0, 5, .inl f16)), (m17, .inl (k 0, 30, .inl f17)), (m20, .inl (k 0, 120, .inl f20))]) [1, 0, 2, 3] (by decide) rfl
    exact W.iret (v := r_5) hx hb hr (fun tZ ht hW => ⟨⟨r_5, 0, rfl, ⟨(show (-2) ≤ r_5.toInt ∧ r_5.toInt ≤ 5 from by omega), (show 0 ≤ 0 ∧ 0 ≤ 0 from by omega)⟩, by rw [ht]; exact hP9, va_K.moved hW.alike hK, hD9⟩, hS.F ht⟩) hS.2.2 dX12_wins_21
set_option maxHeartbeats 4000000 in
set_option maxRecDepth 100000 in
theorem c_X12_price (l : Launch) (D : va_G) (k : Nat → ClassId) (mo : Nat) (v0 : Int32) (m1 : Nat) (m2 : Nat) (m3 : Nat) (m4 : Nat) (m5 : Nat) (v6 : Int32) (v7 : Int32) (v8 : Int32) (v9 : Int32) (v10 : Int32) (v11 : Int64) (v12 : Int32) (v13 : Int32) (v14 : Int32) (v15 : Int32) (m16 : Nat) (m17 : Nat) (m18 : Nat) (m19 : Nat) (m20 : Nat) (m21 : Nat) (m22 : Nat) (m23 : Nat) (v24 : Int32) (m25 : Nat) (m26 : Nat) (m27 : Nat) (m28 : Nat) (m29 : Nat) (v30 : Int32) (m31 : Nat) (m32 : Nat) (m33 : Nat) (v34 : Int32) (v35 : Int32) (v36 : Int32) (m37 : Nat) (m38 : Nat) (m39 : Nat) (m40 : Nat) (v41 : Int64) (f16 : Nat → Int32) (f17 : Nat → Int32) (f20 : Nat → Int32) (sz : Nat) (h_v6 : 0 ≤ v6.toInt ∧ v6.toInt ≤ 1000) (h_v24 : 0 ≤ v24.toInt ∧ v24.toInt ≤ 1023) (hp_f17_0 : PR 30 6 0 0 8 f17) (hp_f17_1 : PR 30 6 1 0 10 f17) (hp_f17_2 : PR 30 6 2 0 4 f17) (hp_f17_3 : PR 30 6 3 0 6 f17) (hp_f17_4 : PR 30 6 4 0 2 f17) (hp_f17_5 : PR 30 6 5 0 40 f17) (hp_f20_0 : PR 120 4 0 0 7 f20) : Met l yX12_price (ww yX12_price cX12_price 4 (some .int)) ({ frames := 1, cells := 0, slots := 0, locals := 22 }) (Pre0 D k [(mo, .inr (12, [.int v0, .ref m1, .ref m2, .ref m3, .ref m4, .ref m5, .int v6, .int v7, .int v8, .int v9, .int v10, .long v11, .int v12, .int v13, .int v14, .int v15, .ref m16, .ref m17, .ref m18, .ref m19, .ref m20, .ref m21, .ref m22, .ref m23, .int v24, .ref m25, .ref m26, .ref m27, .ref m28, .ref m29, .int v30, .ref m31, .ref m32, .ref m33, .int v34, .int v35, .int v36, .ref m37, .ref m38, .ref m39, .ref m40, .long v41])), (m16, .inl (k 0, 5, .inl f16)), (m17, .inl (k 0, 30, .inl f17)), (m20, .inl (k 0, 120, .inl f20))] sz [.ref mo]) (va_Qi (fun (r : Int32) (v0z : Int32) => ((-2) ≤ r.toInt ∧ r.toInt ≤ 2147483647) ∧ (0 ≤ v0z.toInt ∧ v0z.toInt ≤ 0)) (fun (v0z : Int32) tZ => Bw D k (va_A [(mo, .inr (12, [.int v0, .ref m1, .ref m2, .ref m3, .ref m4, .ref m5, .int v6, .int v7, .int v8, .int v9, .int v10, .long v11, .int v12, .int v13, .int v14, .int v15, .ref m16, .ref m17, .ref m18, .ref m19, .ref m20, .ref m21, .ref m22, .ref m23, .int v24, .ref m25, .ref m26, .ref m27, .ref m28, .ref m29, .int v30, .ref m31, .ref m32, .ref m33, .int v34, .int v35, .int v36, .ref m37, .ref m38, .ref m39, .ref m40, .long v41])), (m16, .inl (k 0, 5, .inl f16)), (m17, .inl (k 0, 30, .inl f17)), (m20, .inl (k 0, 120, .inl f20))] sz) [(mo, .inr (12, [.int v0z, .ref m1, .ref m2, .ref m3, .ref m4, .ref m5, .int v6, .int v7, .int v8, .int v9, .int v10, .long v11, .int v12, .int v13, .int v14, .int v15, .ref m16, .ref m17, .ref m18, .ref m19, .ref m20, .ref m21, .ref m22, .ref m23, .int v24, .ref m25, .ref m26, .ref m27, .ref m28, .ref m29, .int v30, .ref m31, .ref m32, .ref m33, .int v34, .int v35, .int v36, .ref m37, .ref m38, .ref m39, .ref m40, .long v41])), (m16, .inl (k 0, 5, .inl f16)), (m17, .inl (k 0, 30, .inl f17)), (m20, .inl (k 0, 120, .inl f20))] tZ) (va_A [(mo, .inr (12, [.int v0, .ref m1, .ref m2, .ref m3, .ref m4, .ref m5, .int v6, .int v7, .int v8, .int v9, .int v10, .long v11, .int v12, .int v13, .int v14, .int v15, .ref m16, .ref m17, .ref m18, .ref m19, .ref m20, .ref m21, .ref m22, .ref m23, .int v24, .ref m25, .ref m26, .ref m27, .ref m28, .ref m29, .int v30, .ref m31, .ref m32, .ref m33, .int v34, .int v35, .int v36, .ref m37, .ref m38, .ref m39, .ref m40, .long v41])), (m16, .inl (k 0, 5, .inl f16)), (m17, .inl (k 0, 30, .inl f17)), (m20, .inl (k 0, 120, .inl f20))] sz)) 0 0 (va_A [(mo, .inr (12, [.int v0, .ref m1, .ref m2, .ref m3, .ref m4, .ref m5, .int v6, .int v7, .int v8, .int v9, .int v10, .long v11, .int v12, .int v13, .int v14, .int v15, .ref m16, .ref m17, .ref m18, .ref m19, .ref m20, .ref m21, .ref m22, .ref m23, .int v24, .ref m25, .ref m26, .ref m27, .ref m28, .ref m29, .int v30, .ref m31, .ref m32, .ref m33, .int v34, .int v35, .int v36, .ref m37, .ref m38, .ref m39, .ref m40, .long v41])), (m16, .inl (k 0, 5, .inl f16)), (m17, .inl (k 0, 30, .inl f17)), (m20, .inl (k 0, 120, .inl f20))] sz) := by
  refine Met.ofW (cc := cX12_price) (maxL := 4) (ret := (some .int)) (by decide +kernel) rfl ?_
  intro p e s m args below meth c s₁ B hml hv
  obtain ⟨rfl, hsz, hP, hK, hD0, hN⟩ := hv
  have hx := B.exec
  have hb := B.bytes
  have hr := B.returns
  have hts : ∀ w ∈ TT, w.before _ s = true := fun w h => atoms_spec (ws := ww yX12_price cX12_price 4 (some .int)) B.pre w (List.mem_cons_of_mem _ h)
  have hown : s.vm.findClass RX12 = some m.cls := findClass_of_methodNamed B.named
  have hlocks := B.notSynchronized
  subst hsz
  have hD := hD0.self (sz := s.heap.size)
  generalize hAe : va_A [(mo, .inr (12, [.int v0, .ref m1, .ref m2, .ref m3, .ref m4, .ref m5, .int v6, .int v7, .int v8, .int v9, .int v10, .long v11, .int v12, .int v13, .int v14, .int v15, .ref m16, .ref m17, .ref m18, .ref m19, .ref m20, .ref m21, .ref m22, .ref m23, .int v24, .ref m25, .ref m26, .ref m27, .ref m28, .ref m29, .int v30, .ref m31, .ref m32, .ref m33, .int v34, .int v35, .int v36, .ref m37, .ref m38, .ref m39, .ref m40, .long v41])), (m16, .inl (k 0, 5, .inl f16)), (m17, .inl (k 0, 30, .inl f17)), (m20, .inl (k 0, 120, .inl f20))] s.heap.size = A at hD ⊢
  have hA : ∀ q : Nat, s.heap.size ≤ q → A q := fun q h => by rw [← hAe]; exact Or.inr h
  have hS : va_S A s.heap s.heap [] := va_S.rf
  have hl := lv_entry ([.ref mo]) (n := 4) (Nat.le_of_ble_eq_true rfl)
  rw [lg_entry_eq]
  generalize (lg_sl ([.ref mo]) ++ List.replicate (4 - (lg_sl ([.ref mo])).length) Slot.unset).toArray = ls at hl ⊢
  have hl : lv_has ls 4 [(0, .ref mo)] := hl
  refine lv_aload_n hx hb dX12_price_0 rfl (lv_at hl 0 rfl) ?_
  refine lv_iconst (v := 0) hx hb dX12_price_1 (by decide) ?_
  refine va_put (D := D) (ci := 12) (v := .int 0) (ty := tyX12 0) (C := RX12) (T := TX12) (N := 42) hx hb hts iT_X12 tyX12 tyX12_ok nmX12 hown hK hP hD hS 0 rfl rfl 0 (by decide) (hts _ tw_6_53) (fun _ h9 => h9) rfl (tyX12_ok 0 (by decide)) rfl rfl (Nat.le_of_ble_eq_true rfl) dX12_price_2 (fun H locs hP hD hS => ?_)
  have hP : va_P D vwCl [(mo, .inr (12, [.int 0, .ref m1, .ref m2, .ref m3, .ref m4, .ref m5, .int v6, .int v7, .int v8, .int v9, .int v10, .long v11, .int v12, .int v13, .int v14, .int v15, .ref m16, .ref m17, .ref m18, .ref m19, .ref m20, .ref m21, .ref m22, .ref m23, .int v24, .ref m25, .ref m26, .ref m27, .ref m28, .ref m29, .int v30, .ref m31, .ref m32, .ref m33, .int v34, .int v35, .int v36, .ref m37, .ref m38, .ref m39, .ref m40, .long v41])), (m16, .inl (k 0, 5, .inl f16)), (m17, .inl (k 0, 30, .inl f17)), (m20, .inl (k 0, 120, .inl f20))] H := hP
  have hD : va_D A [(mo, .inr (12, [.int 0, .ref m1, .ref m2, .ref m3, .ref m4, .ref m5, .int v6, .int v7, .int v8, .int v9, .int v10, .long v11, .int v12, .int v13, .int v14, .int v15, .ref m16, .ref m17, .ref m18, .ref m19, .ref m20, .ref m21, .ref m22, .ref m23, .int v24, .ref m25, .ref m26, .ref m27, .ref m28, .ref m29, .int v30, .ref m31, .ref m32, .ref m33, .int v34, .int v35, .int v36, .ref m37, .ref m38, .ref m39, .ref m40, .long v41])), (m16, .inl (k 0, 5, .inl f16)), (m17, .inl (k 0, 30, .inl f17)), (m20, .inl (k 0, 120, .inl f20))] := hD
  refine lv_aload_n hx hb dX12_price_5 rfl (lv_at hl 0 rfl) ?_
  have hPc := hP.sub (ws' := [(mo, .inr (12, [.int 0, .ref m1, .ref m2, .ref m3, .ref m4, .ref m5, .int v6, .int v7, .int v8, .int v9, .int v10, .long v11, .int v12, .int v13, .int v14, .int v15, .ref m16, .ref m17, .ref m18, .ref m19, .ref m20, .ref m21, .ref m22, .ref m23, .int v24, .ref m25, .ref m26, .ref m27, .ref m28, .ref m29, .int v30, .ref m31, .ref m32, .ref m33, .int v34, .int v35, .int v36, .ref m37, .ref m38, .ref m39, .ref m40, .long v41])), (m16, .inl (k 0, 5, .inl f16))]) [0, 1] rfl
  have hDc := hD.sub (ws' := [(mo, .inr (12, [.int 0, .ref m1, .ref m2, .ref m3, .ref m4, .ref m5, .int v6, .int v7, .int v8, .int v9, .int v10, .long v11, .int v12, .int v13, .int v14, .int v15, .ref m16, .ref m17, .ref m18, .ref m19, .ref m20, .ref m21, .ref m22, .ref m23, .int v24, .ref m25, .ref m26, .ref m27, .ref m28, .ref m29, .int v30, .ref m31, .ref m32, .ref m33, .int v34, .int v35, .int v36, .ref m37, .ref m38, .ref m39, .ref m40, .long v41])), (m16, .inl (k 0, 5, .inl f16))]) [0, 1] (by decide) rfl
  have hFc := va_free (wc := [(mo, .inr (12, [.int 0, .ref m1, .ref m2, .ref m3, .ref m4, .ref m5, .int v6, .int v7, .int v8, .int v9, .int v10, .long v11, .int v12, .int v13, .int v14, .int v15, .ref m16, .ref m17, .ref m18, .ref m19, .ref m20, .ref m21, .ref m22, .ref m23, .int v24, .ref m25, .ref m26, .ref m27, .ref m28, .ref m29, .int v30, .ref m31, .ref m32, .ref m33, .int v34, .int v35, .int v36, .ref m37, .ref m38, .ref m39, .ref m40, .long v41])), (m16, .inl (k 0, 5, .inl f16))]) hD hS hA [0, 1] rfl
  refine va_calli (va_runV (C := RX12) (As := []) (rest := []) ⟨hx, hb, hml, hown, hts⟩ (c_X12_isTown l D k mo 0 m1 m2 m3 m4 m5 v6 v7 v8 v9 v10 v11 v12 v13 v14 v15 m16 m17 m18 m19 m20 m21 m22 m23 v24 m25 m26 m27 m28 m29 v30 m31 m32 m33 v34 v35 v36 m37 m38 m39 m40 v41 f16 H.size (show 0 ≤ v6.toInt ∧ v6.toInt ≤ 1000 from by omega) (show 0 ≤ v24.toInt ∧ v24.toInt ≤ 1023 from by omega)) (cwV 0 hts (gV tw_7_181 tw_7_183 tw_p_71 tw_1_13 tw_7_184) rfl rfl rfl hdV_X12_isTown ⟨Nat.le_of_ble_eq_true rfl, Nat.le_of_ble_eq_true rfl⟩) (cz_V hK hPc hDc hN (ci := 12) (q0 := 0) rfl rfl []) rfl rfl hl.1 rfl (lv_room (Nat.le_of_ble_eq_true rfl)) dX12_price_6 ⟨Nat.le_of_ble_eq_true rfl, Nat.le_of_ble_eq_true rfl⟩) hS (fun q _ h => hFc q h) hFc (fun r_1 uZ tZ H1 locs ht hvm hw hB hz1 hk1 hS => ?_)
  obtain ⟨hP1, hK1, hD1⟩ := hB
  rw [ht] at hP1
  obtain ⟨hP, hD⟩ := va_join (wr := [(m17, .inl (k 0, 30, .inl f17)), (m20, .inl (k 0, 120, .inl f20))]) (w1 := [(mo, .inr (12, [.int 0, .ref m1, .ref m2, .ref m3, .ref m4, .ref m5, .int v6, .int v7, .int v8, .int v9, .int v10, .long v11, .int v12, .int v13, .int v14, .int v15, .ref m16, .ref m17, .ref m18, .ref m19, .ref m20, .ref m21, .ref m22, .ref m23, .int v24, .ref m25, .ref m26, .ref m27, .ref m28, .ref m29, .int v30, .ref m31, .ref m32, .ref m33, .int v34, .int v35, .int v36, .ref m37, .ref m38, .ref m39, .ref m40, .long v41])), (m16, .inl (k 0, 5, .inl f16))]) hP hD [0, 1] [2, 3] rfl rfl (by decide) (by decide) hk1 hFc hP1 hD1
  clear hK1 hP1 hD1 hPc hDc hFc
  clear hk1 hz1 ht hvm
  have hP : va_P D vwCl [(m17, .inl (k 0, 30, .inl f17)), (m20, .inl (k 0, 120, .inl f20)), (mo, .inr (12, [.int 0, .ref m1, .ref m2, .ref m3, .ref m4, .ref m5, .int v6, .int v7, .int v8, .int v9, .int v10, .long v11, .int v12, .int v13, .int v14, .int v15, .ref m16, .ref m17, .ref m18, .ref m19, .ref m20, .ref m21, .ref m22, .ref m23, .int v24, .ref m25, .ref m26, .ref m27, .ref m28, .ref m29, .int v30, .ref m31, .ref m32, .ref m33, .int v34, .int v35, .int v36, .ref m37, .ref m38, .ref m39, .ref m40, .long v41])), (m16, .inl (k 0, 5, .inl f16))] H1 := hP
  have hD : va_D A [(m17, .inl (k 0, 30, .inl f17)), (m20, .inl (k 0, 120, .inl f20)), (mo, .inr (12, [.int 0, .ref m1, .ref m2, .ref m3, .ref m4, .ref m5, .int v6, .int v7, .int v8, .int v9, .int v10, .long v11, .int v12, .int v13, .int v14, .int v15, .ref m16, .ref m17, .ref m18, .ref m19, .ref m20, .ref m21, .ref m22, .ref m23, .int v24, .ref m25, .ref m26, .ref m27, .ref m28, .ref m29, .int v30, .ref m31, .ref m32, .ref m33, .int v34, .int v35, .int v36, .ref m37, .ref m38, .ref m39, .ref m40, .long v41])), (m16, .inl (k 0, 5, .inl f16))] := hD
  generalize H1 = H at hP hS ⊢
  have hw_2 : (0 ≤ r_1.toInt ∧ r_1.toInt ≤ 1) := hw
  have hw_3 := hw_2
  clear hw
  refine lv_if_ne (tgt := 15) hx hb dX12_price_9 (by decide) (fun h_4 => ?_) (fun h_4 => ?_)
  · skip
    have zh_4 : ¬ r_1.toInt = 0 := z_ne h_4
    refine lv_aload_n hx hb dX12_price_15 rfl (lv_at hl 0 rfl) ?_
    have hPc := hP.sub (ws' := [(mo, .inr (12, [.int 0, .ref m1, .ref m2, .ref m3, .ref m4, .ref m5, .int v6, .int v7, .int v8, .int v9, .int v10, .long v11, .int v12, .int v13, .int v14, .int v15, .ref m16, .ref m17, .ref m18, .ref m19, .ref m20, .ref m21, .ref m22, .ref m23, .int v24, .ref m25, .ref m26, .ref m27, .ref m28, .ref m29, .int v30, .ref m31, .ref m32, .ref m33, .int v34, .int v35, .int v36, .ref m37, .ref m38, .ref m39, .ref m40, .long v41])), (m17, .inl (k 0, 30, .inl f17)), (m20, .inl (k 0, 120, .inl f20))]) [2, 0, 1] rfl
    have hDc := hD.sub (ws' := [(mo, .inr (12, [.int 0, .ref m1, .ref m2, .ref m3, .ref m4, .ref m5, .int v6, .int v7, .int v8, .int v9, .int v10, .long v11, .int v12, .int v13, .int v14, .int v15, .ref m16, .ref m17, .ref m18, .ref m19, .ref m20, .ref m21, .ref m22, .ref m23, .int v24, .ref m25, .ref m26, .ref m27, .ref m28, .ref m29, .int v30, .ref m31, .ref m32, .ref m33, .int v34, .int v35, .int v36, .ref m37, .ref m38, .ref m39, .ref m40, .long v41])), (m17, .inl (k 0, 30, .inl f17)), (m20, .inl (k 0, 120, .inl f20))]) [2, 0, 1] (by decide) rfl
    have hFc := va_free (wc := [(mo, .inr (12, [.int 0, .ref m1, .ref m2, .ref m3, .ref m4, .ref m5, .int v6, .int v7, .int v8, .int v9, .int v10, .long v11, .int v12, .int v13, .int v14, .int v15, .ref m16, .ref m17, .ref m18, .ref m19, .ref m20, .ref m21, .ref m22, .ref m23, .int v24, .ref m25, .ref m26, .ref m27, .ref m28, .ref m29, .int v30, .ref m31, .ref m32, .ref m33, .int v34, .int v35, .int v36, .ref m37, .ref m38, .ref m39, .ref m40, .long v41])), (m17, .inl (k 0, 30, .inl f17)), (m20, .inl (k 0, 120, .inl f20))]) hD hS hA [2, 0, 1] rfl
    refine va_calli (va_runV (C := RX12) (As := []) (rest := []) ⟨hx, hb, hml, hown, hts⟩ (c_X12_winner l D k mo 0 m1 m2 m3 m4 m5 v6 v7 v8 v9 v10 v11 v12 v13 v14 v15 m16 m17 m18 m19 m20 m21 m22 m23 v24 m25 m26 m27 m28 m29 v30 m31 m32 m33 v34 v35 v36 m37 m38 m39 m40 v41 f17 f20 H.size (show 0 ≤ v6.toInt ∧ v6.toInt ≤ 1000 from by omega) (show 0 ≤ v24.toInt ∧ v24.toInt ≤ 1023 from by omega) hp_f17_0 hp_f17_1 hp_f17_2 hp_f17_3 hp_f17_4 hp_f17_5 hp_f20_0) (cwV 0 hts (gV tw_8_158 tw_8_160 tw_p_91 tw_1_13 tw_8_161) rfl rfl rfl hdV_X12_winner ⟨Nat.le_of_ble_eq_true rfl, Nat.le_of_ble_eq_true rfl⟩) (cz_V hK hPc hDc hN (ci := 12) (q0 := 0) rfl rfl []) rfl rfl hl.1 rfl (lv_room (Nat.le_of_ble_eq_true rfl)) dX12_price_16 ⟨Nat.le_of_ble_eq_true rfl, Nat.le_of_ble_eq_true rfl⟩) hS (fun q _ h => hFc q h) hFc (fun r_5 uZ tZ H1 locs ht hvm hw hB hz1 hk1 hS => ?_)
    obtain ⟨hP1, hK1, hD1⟩ := hB
    rw [ht] at hP1
    obtain ⟨hP, hD⟩ := va_join (wr := [(m16, .inl (k 0, 5, .inl f16))]) (w1 := [(mo, .inr (12, [.int 0, .ref m1, .ref m2, .ref m3, .ref m4, .ref m5, .int v6, .int v7, .int v8, .int v9, .int v10, .long v11, .int v12, .int v13, .int v14, .int v15, .ref m16, .ref m17, .ref m18, .ref m19, .ref m20, .ref m21, .ref m22, .ref m23, .int v24, .ref m25, .ref m26, .ref m27, .ref m28, .ref m29, .int v30, .ref m31, .ref m32, .ref m33, .int v34, .int v35, .int v36, .ref m37, .ref m38, .ref m39, .ref m40, .long v41])), (m17, .inl (k 0, 30, .inl f17)), (m20, .inl (k 0, 120, .inl f20))]) hP hD [2, 0, 1] [3] rfl rfl (by decide) (by decide) hk1 hFc hP1 hD1
    clear hK1 hP1 hD1 hPc hDc hFc
    clear hk1 hz1 ht hvm
    have hP : va_P D vwCl [(m16, .inl (k 0, 5, .inl f16)), (mo, .inr (12, [.int 0, .ref m1, .ref m2, .ref m3, .ref m4, .ref m5, .int v6, .int v7, .int v8, .int v9, .int v10, .long v11, .int v12, .int v13, .int v14, .int v15, .ref m16, .ref m17, .ref m18, .ref m19, .ref m20, .ref m21, .ref m22, .ref m23, .int v24, .ref m25, .ref m26, .ref m27, .ref m28, .ref m29, .int v30, .ref m31, .ref m32, .ref m33, .int v34, .int v35, .int v36, .ref m37, .ref m38, .ref m39, .ref m40, .long v41])), (m17, .inl (k 0, 30, .inl f17)), (m20, .inl (k 0, 120, .inl f20))] H1 := hP
    have hD : va_D A [(m16, .inl (k 0, 5, .inl f16)), (mo, .inr (12, [.int 0, .ref m1, .ref m2, .ref m3, .ref m4, .ref m5, .int v6, .int v7, .int v8, .int v9, .int v10, .long v11, .int v12, .int v13, .int v14, .int v15, .ref m16, .ref m17, .ref m18, .ref m19, .ref m20, .ref m21, .ref m22, .ref m23, .int v24, .ref m25, .ref m26, .ref m27, .ref m28, .ref m29, .int v30, .ref m31, .ref m32, .ref m33, .int v34, .int v35, .int v36, .ref m37, .ref m38, .ref m39, .ref m40, .long v41])), (m17, .inl (k 0, 30, .inl f17)), (m20, .inl (k 0, 120, .inl f20))] := hD
    generalize H1 = H at hP hS ⊢
    have hw_6 : ((-1) ≤ r_5.toInt ∧ r_5.toInt ≤ 5) := hw
    have hw_7 := hw_6
    clear hw
    refine lv_istore_n (lv' := [(1, .int r_5), (0, .ref mo)]) hx hb dX12_price_19 rfl hl (by decide) rfl (fun ls hl => ?_)
    refine lv_iload_n hx hb dX12_price_20 rfl (lv_at hl 0 rfl) ?_
    refine lv_iconst (v := (-1)) hx hb dX12_price_21 (by decide) ?_
    refine lv_icmp_ne (tgt := 27) hx hb dX12_price_22 (by decide) (fun h_8 => ?_) (fun h_8 => ?_)
    · skip
      have zh_8 : ¬ r_5.toInt = (-1) := z_ne h_8
      refine lv_iconst (v := 0) hx hb dX12_price_27 (by decide) ?_
      refine lv_istore_n (lv' := [(2, .int 0), (1, .int r_5), (0, .ref mo)]) hx hb dX12_price_28 rfl hl (by decide) rfl (fun ls hl => ?_)
      refine lv_iconst (v := 0) hx hb dX12_price_29 (by decide) ?_
      refine lv_istore_n (lv' := [(3, .int 0), (2, .int 0), (1, .int r_5), (0, .ref mo)]) hx hb dX12_price_30 rfl hl (by decide) rfl (fun ls hl => ?_)
      refine loop_r (Wg := fun H locs ls => W p l e _ s m _ below meth c H locs _ _ _ (F0 m 31 ls [])) (fun n9 H locs ls => ∃ (L31l2 : Int32) (L31l3 : Int32), n9 = (6 - L31l3.toInt).toNat ∧ (0 ≤ L31l2.toInt ∧ L31l2.toInt ≤ 2147483647) ∧ (0 ≤ L31l3.toInt ∧ L31l3.toInt ≤ 6) ∧ va_P D vwCl [(m16, .inl (k 0, 5, .inl f16)), (mo, .inr (12, [.int 0, .ref m1, .ref m2, .ref m3, .ref m4, .ref m5, .int v6, .int v7, .int v8, .int v9, .int v10, .long v11, .int v12, .int v13, .int v14, .int v15, .ref m16, .ref m17, .ref m18, .ref m19, .ref m20, .ref m21, .ref m22, .ref m23, .int v24, .ref m25, .ref m26, .ref m27, .ref m28, .ref m29, .int v30, .ref m31, .ref m32, .ref m33, .int v34, .int v35, .int v36, .ref m37, .ref m38, .ref m39, .ref m40, .long v41])), (m17, .inl (k 0, 30, .inl f17)), (m20, .inl (k 0, 120, .inl f20))] H ∧ va_D A [(m16, .inl (k 0, 5, .inl f16)), (mo, .inr (12, [.int 0, .ref m1, .ref m2, .ref m3, .ref m4, .ref m5, .int v6, .int v7, .int v8, .int v9, .int v10, .long v11, .int v12, .int v13, .int v14, .int v15, .ref m16, .ref m17, .ref m18, .ref m19, .ref m20, .ref m21, .ref m22, .ref m23, .int v24, .ref m25, .ref m26, .ref m27, .ref m28, .ref m29, .int v30, .ref m31, .ref m32, .ref m33, .int v34, .int v35, .int v36, .ref m37, .ref m38, .ref m39, .ref m40, .long v41])), (m17, .inl (k 0, 30, .inl f17)), (m20, .inl (k 0, 120, .inl f20))] ∧ va_S A s.heap H locs ∧ lv_has ls 4 [(0, .ref mo), (1, .int r_5), (2, .int L31l2), (3, .int L31l3)]) (fun n9 H locs ls hI ih_9 => ?_) _ _ _ _ ⟨0, 0, rfl, (show 0 ≤ 0 ∧ 0 ≤ 2147483647 from by omega), (show 0 ≤ 0 ∧ 0 ≤ 6 from by omega), hP.sub (ws' := [(m16, .inl (k 0, 5, .inl f16)), (mo, .inr (12, [.int 0, .ref m1, .ref m2, .ref m3, .ref m4, .ref m5, .int v6, .int v7, .int v8, .int v9, .int v10, .long v11, .int v12, .int v13, .int v14, .int v15, .ref m16, .ref m17, .ref m18, .ref m19, .ref m20, .ref m21, .ref m22, .ref m23, .int v24, .ref m25, .ref m26, .ref m27, .ref m28, .ref m29, .int v30, .ref m31, .ref m32, .ref m33, .int v34, .int v35, .int v36, .ref m37, .ref m38, .ref m39, .ref m40, .long v41])), (m17, .inl (k 0, 30, .inl f17)), (m20, .inl (k 0, 120, .inl f20))]) [0, 1, 2, 3] rfl, hD.sub (ws' := [(m16, .inl (k 0, 5, .inl f16)), (mo, .inr (12, [.int 0, .ref m1, .ref m2, .ref m3, .ref m4, .ref m5, .int v6, .int v7, .int v8, .int v9, .int v10, .long v11, .int v12, .int v13, .int v14, .int v15, .ref m16, .ref m17, .ref m18, .ref m19, .ref m20, .ref m21, .ref m22, .ref m23, .int v24, .ref m25, .ref m26, .ref m27, .ref m28, .ref m29, .int v30, .ref m31, .ref m32, .ref m33, .int v34, .int v35, .int v36, .ref m37, .ref m38, .ref m39, .ref m40, .long v41])), (m17, .inl (k 0, 30, .inl f17)), (m20, .inl (k 0, 120, .inl f20))]) [0, 1, 2, 3] (by decide) rfl, hS, lv_sub hl [3, 2, 1, 0] rfl⟩
      clear hP hD hS hl
      obtain ⟨L31l2, L31l3, en_10, zL31l2, zL31l3, hP, hD, hS, hl⟩ := hI
      refine lv_iload_n hx hb dX12_price_31 rfl (lv_at hl 3 rfl) ?_
      refine lv_aload_n hx hb dX12_price_32 rfl (lv_at hl 0 rfl) ?_
      refine va_get (D := D) (ci := 12) (v := .ref m17) (C := RX12) (T := TX12) (N := 42) hx hb hts iT_X12 hown hK hP 1 rfl rfl 17 (by decide) (hts _ tw_6_70) (fun _ h9 => h9) rfl dX12_price_33 ?_
      refine lv_iconst (v := 3) hx hb dX12_price_36 (by decide) ?_
      refine va_iald hx hb hK hP 2 0 rfl rfl (z_in (by decide) (by decide)) dX12_price_37 ?_
      refine lv_topi (fun x_11 ex_11 => ?_)
      have zx_11r3 : 0 ≤ x_11.toInt ∧ x_11.toInt ≤ 6 := by rw [ex_11]; exact PR.ld hp_f17_3 (by decide) (by decide) (by decide)
      refine lv_icmp_ge (tgt := 77) hx hb dX12_price_38 (by decide) (fun h_12 => ?_) (fun h_12 => ?_)
      · skip
        have zh_12 : x_11.toInt ≤ L31l3.toInt := z_le h_12
        refine lv_iload_n hx hb dX12_price_77 rfl (lv_at hl 2 rfl) ?_
        have hP9 := hP.sub (ws' := [(mo, .inr (12, [.int 0, .ref m1, .ref m2, .ref m3, .ref m4, .ref m5, .int v6, .int v7, .int v8, .int v9, .int v10, .long v11, .int v12, .int v13, .int v14, .int v15, .ref m16, .ref m17, .ref m18, .ref m19, .ref m20, .ref m21, .ref m22, .ref m23, .int v24, .ref m25, .ref m26, .ref m27, .ref m28, .ref m29, .int v30, .ref m31, .ref m32, .ref m33, .int v34, .int v35, .int v36, .ref m37, .ref m38, .ref m39, .ref m40, .long v41])), (m16, .inl (k 0, 5, .inl f16)), (m17, .inl (k 0, 30, .inl f17)), (m20, .inl (k 0, 120, .inl f20))]) [1, 0, 2, 3] rfl
        have hD9 := hD.sub (ws' := [(mo, .inr (12, [.int 0, .ref m1, .ref m2, .ref m3, .ref m4, .ref m5, .int v6, .int v7, .int v8, .int v9, .int v10, .long v11, .int v12, .int v13, .int v14, .int v15, .ref m16, .ref m17, .ref m18, .ref m19, .ref m20, .ref m21, .ref m22, .ref m23, .int v24, .ref m25, .ref m26, .ref m27, .ref m28, .ref m29, .int v30, .ref m31, .ref m32, .ref m33, .int v34, .int v35, .int v36, .ref m37, .ref m38, .ref m39, .ref m40, .long v41])), (m16, .inl (k 0, 5, .inl f16)), (m17, .inl (k 0, 30, .inl f17)), (m20, .inl (k 0, 120, .inl f20))]) [1, 0, 2, 3] (by decide) rfl
        exact W.iret (v := L31l2) hx hb hr (fun tZ ht hW => ⟨⟨L31l2, 0, rfl, ⟨(show (-2) ≤ L31l2.toInt ∧ L31l2.toInt ≤ 2147483647 from by have := z_rng L31l2; omega), (show 0 ≤ 0 ∧ 0 ≤ 0 from by omega)⟩, by rw [ht]; exact hP9, va_K.moved hW.alike hK, hD9⟩, hS.F ht⟩) hS.2.2 dX12_price_78
      · skip
        have zh_12 : L31l3.toInt < x_11.toInt := z_nle h_12
        refine lv_iload_n hx hb dX12_price_41 rfl (lv_at hl 3 rfl) ?_
        refine lv_iload_n hx hb dX12_price_42 rfl (lv_at hl 1 rfl) ?_
        refine lv_icmp_eq (tgt := 71) hx hb dX12_price_43 (by decide) (fun h_13 => ?_) (fun h_13 => ?_)
        · skip
          have zh_13 : L31l3.toInt = r_5.toInt := z_eq h_13
          obtain ⟨x_14, ex_14⟩ : ∃ y : Int32, y = L31l3 + 1 := ⟨_, rfl⟩
          have zx_14 : x_14.toInt = L31l3.toInt + 1 := by rw [ex_14]; exact z_add rfl rfl (by omega) (by omega)
          refine lv_iinc (v := x_14) (lv' := [(3, .int x_14), (0, .ref mo), (1, .int r_5), (2, .int L31l2)]) hx hb dX12_price_71 hl (k := 3) rfl (by rw [ex_14]; rfl) (by decide) rfl (fun ls hl => ?_)
          refine lv_goto (tgt := 31) hx hb dX12_price_74 (by decide) ?_
          exact ih_9 _ _ _ _ (by omega) ⟨L31l2, x_14, rfl, (show 0 ≤ L31l2.toInt ∧ L31l2.toInt ≤ 2147483647 from by have := z_rng L31l2; omega), (show 0 ≤ x_14.toInt ∧ x_14.toInt ≤ 6 from by omega), hP.sub (ws' := [(m16, .inl (k 0, 5, .inl f16)), (mo, .inr (12, [.int 0, .ref m1, .ref m2, .ref m3, .ref m4, .ref m5, .int v6, .int v7, .int v8, .int v9, .int v10, .long v11, .int v12, .int v13, .int v14, .int v15, .ref m16, .ref m17, .ref m18, .ref m19, .ref m20, .ref m21, .ref m22, .ref m23, .int v24, .ref m25, .ref m26, .ref m27, .ref m28, .ref m29, .int v30, .ref m31, .ref m32, .ref m33, .int v34, .int v35, .int v36, .ref m37, .ref m38, .ref m39, .ref m40, .long v41])), (m17, .inl (k 0, 30, .inl f17)), (m20, .inl (k 0, 120, .inl f20))]) [0, 1, 2, 3] rfl, hD.sub (ws' := [(m16, .inl (k 0, 5, .inl f16)), (mo, .inr (12, [.int 0, .ref m1, .ref m2, .ref m3, .ref m4, .ref m5, .int v6, .int v7, .int v8, .int v9, .int v10, .long v11, .int v12, .int v13, .int v14, .int v15, .ref m16, .ref m17, .ref m18, .ref m19, .ref m20, .ref m21, .ref m22, .ref m23, .int v24, .ref m25, .ref m26, .ref m27, .ref m28, .ref m29, .int v30, .ref m31, .ref m32, .ref m33, .int v34, .int v35, .int v36, .ref m37, .ref m38, .ref m39, .ref m40, .long v41])), (m17, .inl (k 0, 30, .inl f17)), (m20, .inl (k 0, 120, .inl f20))]) [0, 1, 2, 3] (by decide) rfl, hS, lv_sub hl [1, 2, 3, 0] rfl⟩
        · skip
          have zh_13 : ¬ L31l3.toInt = r_5.toInt := z_ne h_13
          refine lv_aload_n hx hb dX12_price_46 rfl (lv_at hl 0 rfl) ?_
          refine va_get (D := D) (ci := 12) (v := .ref m20) (C := RX12) (T := TX12) (N := 42) hx hb hts iT_X12 hown hK hP 1 rfl rfl 20 (by decide) (hts _ tw_6_73) (fun _ h9 => h9) rfl dX12_price_47 ?_
          refine lv_iconst (v := 4) hx hb dX12_price_50 (by decide) ?_
          refine lv_iload_n hx hb dX12_price_51 rfl (lv_at hl 3 rfl) ?_
          refine lv_imul hx hb dX12_price_52 ?_
          refine lv_topi (fun x_15 ex_15 => ?_)
          have zx_15 : x_15.toInt = 4 * L31l3.toInt := by rw [ex_15]; exact z_mul rfl rfl (by omega) (by omega)
          refine lv_iconst (v := 2) hx hb dX12_price_53 (by decide) ?_
          refine lv_iadd hx hb dX12_price_54 ?_
          refine lv_topi (fun x_16 ex_16 => ?_)
          have zx_16 : x_16.toInt = x_15.toInt + 2 := by rw [ex_16]; exact z_add rfl rfl (by omega) (by omega)
          refine va_iald hx hb hK hP 3 0 rfl rfl (z_in (by omega) (by omega)) dX12_price_55 ?_
          refine lv_topi (fun x_17 ex_17 => ?_)
          refine lv_iload_n hx hb dX12_price_56 rfl (lv_at hl 2 rfl) ?_
          refine lv_icmp_le (tgt := 71) hx hb dX12_price_57 (by decide) (fun h_18 => ?_) (fun h_18 => ?_)
          · skip
            have zh_18 : x_17.toInt ≤ L31l2.toInt := z_le h_18
            obtain ⟨x_19, ex_19⟩ : ∃ y : Int32, y = L31l3 + 1 := ⟨_, rfl⟩
            have zx_19 : x_19.toInt = L31l3.toInt + 1 := by rw [ex_19]; exact z_add rfl rfl (by omega) (by omega)
            refine lv_iinc (v := x_19) (lv' := [(3, .int x_19), (0, .ref mo), (1, .int r_5), (2, .int L31l2)]) hx hb dX12_price_71 hl (k := 3) rfl (by rw [ex_19]; rfl) (by decide) rfl (fun ls hl => ?_)
            refine lv_goto (tgt := 31) hx hb dX12_price_74 (by decide) ?_
            exact ih_9 _ _ _ _ (by omega) ⟨L31l2, x_19, rfl, (show 0 ≤ L31l2.toInt ∧ L31l2.toInt ≤ 2147483647 from by have := z_rng L31l2; omega), (show 0 ≤ x_19.toInt ∧ x_19.toInt ≤ 6 from by omega), hP.sub (ws' := [(m16, .inl (k 0, 5, .inl f16)), (mo, .inr (12, [.int 0, .ref m1, .ref m2, .ref m3, .ref m4, .ref m5, .int v6, .int v7, .int v8, .int v9, .int v10, .long v11, .int v12, .int v13, .int v14, .int v15, .ref m16, .ref m17, .ref m18, .ref m19, .ref m20, .ref m21, .ref m22, .ref m23, .int v24, .ref m25, .ref m26, .ref m27, .ref m28, .ref m29, .int v30, .ref m31, .ref m32, .ref m33, .int v34, .int v35, .int v36, .ref m37, .ref m38, .ref m39, .ref m40, .long v41])), (m17, .inl (k 0, 30, .inl f17)), (m20, .inl (k 0, 120, .inl f20))]) [0, 1, 2, 3] rfl, hD.sub (ws' := [(m16, .inl (k 0, 5, .inl f16)), (mo, .inr (12, [.int 0, .ref m1, .ref m2, .ref m3, .ref m4, .ref m5, .int v6, .int v7, .int v8, .int v9, .int v10, .long v11, .int v12, .int v13, .int v14, .int v15, .ref m16, .ref m17, .ref m18, .ref m19, .ref m20, .ref m21, .ref m22, .ref m23, .int v24, .ref m25, .ref m26, .ref m27, .ref m28, .ref m29, .int v30, .ref m31, .ref m32, .ref m33, .int v34, .int v35, .int v36, .ref m37, .ref m38, .ref m39, .ref m40, .long v41])), (m17, .inl (k 0, 30, .inl f17)), (m20, .inl (k 0, 120, .inl f20))]) [0, 1, 2, 3] (by decide) rfl, hS, lv_sub hl [1, 2, 3, 0] rfl⟩
          · skip
            have zh_18 : L31l2.toInt < x_17.toInt := z_nle h_18
            refine lv_aload_n hx hb dX12_price_60 rfl (lv_at hl 0 rfl) ?_
            refine va_get (D := D) (ci := 12) (v := .ref m20) (C := RX12) (T := TX12) (N := 42) hx hb hts iT_X12 hown hK hP 1 rfl rfl 20 (by decide) (hts _ tw_6_73) (fun _ h9 => h9) rfl dX12_price_61 ?_
            refine lv_iconst (v := 4) hx hb dX12_price_64 (by decide) ?_
            refine lv_iload_n hx hb dX12_price_65 rfl (lv_at hl 3 rfl) ?_
            refine lv_imul hx hb dX12_price_66 ?_
            refine lv_topi (fun x_20 ex_20 => ?_)
            obtain rfl : x_15 = x_20 := ex_15.trans ex_20.symm
            refine lv_iconst (v := 2) hx hb dX12_price_67 (by decide) ?_
            refine lv_iadd hx hb dX12_price_68 ?_
            refine lv_topi (fun x_21 ex_21 => ?_)
            obtain rfl : x_16 = x_21 := ex_16.trans ex_21.symm
            refine va_iald hx hb hK hP 3 0 rfl rfl (z_in (by omega) (by omega)) dX12_price_69 ?_
            refine lv_topi (fun x_22 ex_22 => ?_)
            obtain rfl : x_17 = x_22 := ex_17.trans ex_22.symm
            refine lv_istore_n (lv' := [(2, .int x_17), (0, .ref mo), (1, .int r_5), (3, .int L31l3)]) hx hb dX12_price_70 rfl hl (by decide) rfl (fun ls hl => ?_)
            obtain ⟨x_23, ex_23⟩ : ∃ y : Int32, y = L31l3 + 1 := ⟨_, rfl⟩
            have zx_23 : x_23.toInt = L31l3.toInt + 1 := by rw [ex_23]; exact z_add rfl rfl (by omega) (by omega)
            refine lv_iinc (v := x_23) (lv' := [(3, .int x_23), (2, .int x_17), (0, .ref mo), (1, .int r_5)]) hx hb dX12_price_71 hl (k := 3) rfl (by rw [ex_23]; rfl) (by decide) rfl (fun ls hl => ?_)
            refine lv_goto (tgt := 31) hx hb dX12_price_74 (by decide) ?_
            exact ih_9 _ _ _ _ (by omega) ⟨x_17, x_23, rfl, (show 0 ≤ x_17.toInt ∧ x_17.toInt ≤ 2147483647 from by have := z_rng x_17; omega), (show 0 ≤ x_23.toInt ∧ x_23.toInt ≤ 6 from by omega), hP.sub (ws' := [(m16, .inl (k 0, 5, .inl f16)), (mo, .inr (12, [.int 0, .ref m1, .ref m2, .ref m3, .ref m4, .ref m5, .int v6, .int v7, .int v8, .int v9, .int v10, .long v11, .int v12, .int v13, .int v14, .int v15, .ref m16, .ref m17, .ref m18, .ref m19, .ref m20, .ref m21, .ref m22, .ref m23, .int v24, .ref m25, .ref m26, .ref m27, .ref m28, .ref m29, .int v30, .ref m31, .ref m32, .ref m33, .int v34, .int v35, .int v36, .ref m37, .ref m38, .ref m39, .ref m40, .long v41])), (m17, .inl (k 0, 30, .inl f17)), (m20, .inl (k 0, 120, .inl f20))]) [0, 1, 2, 3] rfl, hD.sub (ws' := [(m16, .inl (k 0, 5, .inl f16)), (mo, .inr (12, [.int 0, .ref m1, .ref m2, .ref m3, .ref m4, .ref m5, .int v6, .int v7, .int v8, .int v9, .int v10, .long v11, .int v12, .int v13, .int v14, .int v15, .ref m16, .ref m17, .ref m18, .ref m19, .ref m20, .ref m21, .ref m22, .ref m23, .int v24, .ref m25, .ref m26, .ref m27, .ref m28, .ref m29, .int v30, .ref m31, .ref m32, .ref m33, .int v34, .int v35, .int v36, .ref m37, .ref m38, .ref m39, .ref m40, .long v41])), (m17, .inl (k 0, 30, .inl f17)), (m20, .inl (k 0, 120, .inl f20))]) [0, 1, 2, 3] (by decide) rfl, hS, lv_sub hl [2, 3, 1, 0] rfl⟩
    · skip
      have zh_8 : r_5.toInt = (-1) := z_eq h_8
      refine lv_iconst (v := (-1)) hx hb dX12_price_25 (by decide) ?_
      have hP9 := hP.sub (ws' := [(mo, .inr (12, [.int 0, .ref m1, .ref m2, .ref m3, .ref m4, .ref m5, .int v6, .int v7, .int v8, .int v9, .int v10, .long v11, .int v12, .int v13, .int v14, .int v15, .ref m16, .ref m17, .ref m18, .ref m19, .ref m20, .ref m21, .ref m22, .ref m23, .int v24, .ref m25, .ref m26, .ref m27, .ref m28, .ref m29, .int v30, .ref m31, .ref m32, .ref m33, .int v34, .int v35, .int v36, .ref m37, .ref m38, .ref m39, .ref m40, .long v41])), (m16, .inl (k 0, 5, .inl f16)), (m17, .inl (k 0, 30, .inl f17)), (m20, .inl (k 0, 120, .inl f20))]) [1, 0, 2, 3] rfl
      have hD9 := hD.sub (ws' := [(mo, .inr (12, [.int 0, .ref m1, .ref m2, .ref m3, .ref m4, .ref m5, .int v6, .int v7, .int v8, .int v9, .int v10, .long v11, .int v12, .int v13, .int v14, .int v15, .ref m16, .ref m17, .ref m18, .ref m19, .ref m20, .ref m21, .ref m22, .ref m23, .int v24, .ref m25, .ref m26, .ref m27, .ref m28, .ref m29, .int v30, .ref m31, .ref m32, .ref m33, .int v34, .int v35, .int v36, .ref m37, .ref m38, .ref m39, .ref m40, .long v41])), (m16, .inl (k 0, 5, .inl f16)), (m17, .inl (k 0, 30, .inl f17)), (m20, .inl (k 0, 120, .inl f20))]) [1, 0, 2, 3] (by decide) rfl
      exact W.iret (v := (-1)) hx hb hr (fun tZ ht hW => ⟨⟨(-1), 0, rfl, ⟨(show (-2) ≤ (-1) ∧ (-1) ≤ 2147483647 from by omega), (show 0 ≤ 0 ∧ 0 ≤ 0 from by omega)⟩, by rw [ht]; exact hP9, va_K.moved hW.alike hK, hD9⟩, hS.F ht⟩) hS.2.2 dX12_price_26
  · skip
    have zh_4 : r_1.toInt = 0 := z_eq h_4
    refine lv_bipush (v := (-2)) hx hb dX12_price_12 (by decide) ?_
    have hP9 := hP.sub (ws' := [(mo, .inr (12, [.int 0, .ref m1, .ref m2, .ref m3, .ref m4, .ref m5, .int v6, .int v7, .int v8, .int v9, .int v10, .long v11, .int v12, .int v13, .int v14, .int v15, .ref m16, .ref m17, .ref m18, .ref m19, .ref m20, .ref m21, .ref m22, .ref m23, .int v24, .ref m25, .ref m26, .ref m27, .ref m28, .ref m29, .int v30, .ref m31, .ref m32, .ref m33, .int v34, .int v35, .int v36, .ref m37, .ref m38, .ref m39, .ref m40, .long v41])), (m16, .inl (k 0, 5, .inl f16)), (m17, .inl (k 0, 30, .inl f17)), (m20, .inl (k 0, 120, .inl f20))]) [2, 3, 0, 1] rfl
    have hD9 := hD.sub (ws' := [(mo, .inr (12, [.int 0, .ref m1, .ref m2, .ref m3, .ref m4, .ref m5, .int v6, .int v7, .int v8, .int v9, .int v10, .long v11, .int v12, .int v13, .int v14, .int v15, .ref m16, .ref m17, .ref m18, .ref m19, .ref m20, .ref m21, .ref m22, .ref m23, .int v24, .ref m25, .ref m26, .ref m27, .ref m28, .ref m29, .int v30, .ref m31, .ref m32, .ref m33, .int v34, .int v35, .int v36, .ref m37, .ref m38, .ref m39, .ref m40, .long v41])), (m16, .inl (k 0, 5, .inl f16)), (m17, .inl (k 0, 30, .inl f17)), (m20, .inl (k 0, 120, .inl f20))]) [2, 3, 0, 1] (by decide) rfl
    exact W.iret (v := (-2)) hx hb hr (fun tZ ht hW => ⟨⟨(-2), 0, rfl, ⟨(show (-2) ≤ (-2) ∧ (-2) ≤ 2147483647 from by omega), (show 0 ≤ 0 ∧ 0 ≤ 0 from by omega)⟩, by rw [ht]; exact hP9, va_K.moved hW.alike hK, hD9⟩, hS.F ht⟩) hS.2.2 dX12_price_14
set_option maxHeartbeats 4000000 in
set_option maxRecDepth 100000 in
theorem c_X12_townHas (l : Launch) (D : va_G) (k : Nat → ClassId) (mo : Nat) (p0 : Int32) (v0 : Int32) (m1 : Nat) (m2 : Nat) (m3 : Nat) (m4 : Nat) (m5 : Nat) (v6 : Int32) (v7 : Int32) (v8 : Int32) (v9 : Int32) (v10 : Int32) (v11 : Int64) (v12 : Int32) (v13 : Int32) (v14 : Int32) (v15 : Int32) (m16 : Nat) (m17 : Nat) (m18 : Nat) (m19 : Nat) (m20 : Nat) (m21 : Nat) (m22 : Nat) (m23 : Nat) (v24 : Int32) (m25 : Nat) (m26 : Nat) (m27 : Nat) (m28 : Nat) (m29 : Nat) (v30 : Int32) (m31 : Nat) (m32 : Nat) (m33 : Nat) (v34 : Int32) (v35 : Int32) (v36 : Int32) (m37 : Nat) (m38 : Nat) (m39 : Nat) (m40 : Nat) (v41 : Int64) (f17 : Nat → Int32) (f39 : Nat → Int32) (sz : Nat) (h_p0 : 0 ≤ p0.toInt ∧ p0.toInt ≤ 3) (h_v6 : 0 ≤ v6.toInt ∧ v6.toInt ≤ 1000) (h_v24 : 0 ≤ v24.toInt ∧ v24.toInt ≤ 1023) (hp_f17_0 : PR 30 6 0 0 8 f17) (hp_f17_1 : PR 30 6 1 0 10 f17) (hp_f17_2 : PR 30 6 2 0 4 f17) (hp_f17_3 : PR 30 6 3 0 6 f17) (hp_f17_4 : PR 30 6 4 0 2 f17) (hp_f17_5 : PR 30 6 5 0 40 f17) : Met l yX12_townHas (ww yX12_townHas cX12_townHas 4 (some .int)) ({ frames := 0, cells := 0, slots := 0, locals := 0 }) (Pre0 D k [(mo, .inr (12, [.int v0, .ref m1, .ref m2, .ref m3, .ref m4, .ref m5, .int v6, .int v7, .int v8, .int v9, .int v10, .long v11, .int v12, .int v13, .int v14, .int v15, .ref m16, .ref m17, .ref m18, .ref m19, .ref m20, .ref m21, .ref m22, .ref m23, .int v24, .ref m25, .ref m26, .ref m27, .ref m28, .ref m29, .int v30, .ref m31, .ref m32, .ref m33, .int v34, .int v35, .int v36, .ref m37, .ref m38, .ref m39, .ref m40, .long v41])), (m17, .inl (k 0, 30, .inl f17)), (m39, .inl (k 0, 44, .inl f39))] sz [.ref mo, .int p0]) (va_Qi (fun (r : Int32) (_ : Unit) => True) (fun (_ : Unit) tZ => Bw D k (va_A [(mo, .inr (12, [.int v0, .ref m1, .ref m2, .ref m3, .ref m4, .ref m5, .int v6, .int v7, .int v8, .int v9, .int v10, .long v11, .int v12, .int v13, .int v14, .int v15, .ref m16, .ref m17, .ref m18, .ref m19, .ref m20, .ref m21, .ref m22, .ref m23, .int v24, .ref m25, .ref m26, .ref m27, .ref m28, .ref m29, .int v30, .ref m31, .ref m32, .ref m33, .int v34, .int v35, .int v36, .ref m37, .ref m38, .ref m39, .ref m40, .long v41])), (m17, .inl (k 0, 30, .inl f17)), (m39, .inl (k 0, 44, .inl f39))] sz) [(mo, .inr (12, [.int v0, .ref m1, .ref m2, .ref m3, .ref m4, .ref m5, .int v6, .int v7, .int v8, .int v9, .int v10, .long v11, .int v12, .int v13, .int v14, .int v15, .ref m16, .ref m17, .ref m18, .ref m19, .ref m20, .ref m21, .ref m22, .ref m23, .int v24, .ref m25, .ref m26, .ref m27, .ref m28, .ref m29, .int v30, .ref m31, .ref m32, .ref m33, .int v34, .int v35, .int v36, .ref m37, .ref m38, .ref m39, .ref m40, .long v41])), (m17, .inl (k 0, 30, .inl f17)), (m39, .inl (k 0, 44, .inl f39))] tZ) (va_A [(mo, .inr (12, [.int v0, .ref m1, .ref m2, .ref m3, .ref m4, .ref m5, .int v6, .int v7, .int v8, .int v9, .int v10, .long v11, .int v12, .int v13, .int v14, .int v15, .ref m16, .ref m17, .ref m18, .ref m19, .ref m20, .ref m21, .ref m22, .ref m23, .int v24, .ref m25, .ref m26, .ref m27, .ref m28, .ref m29, .int v30, .ref m31, .ref m32, .ref m33, .int v34, .int v35, .int v36, .ref m37, .ref m38, .ref m39, .ref m40, .long v41])), (m17, .inl (k 0, 30, .inl f17)), (m39, .inl (k 0, 44, .inl f39))] sz)) 0 0 (va_A [(mo, .inr (12, [.int v0, .ref m1, .ref m2, .ref m3, .ref m4, .ref m5, .int v6, .int v7, .int v8, .int v9, .int v10, .long v11, .int v12, .int v13, .int v14, .int v15, .ref m16, .ref m17, .ref m18, .ref m19, .ref m20, .ref m21, .ref m22, .ref m23, .int v24, .ref m25, .ref m26, .ref m27, .ref m28, .ref m29, .int v30, .ref m31, .ref m32, .ref m33, .int v34, .int v35, .int v36, .ref m37, .ref m38, .ref m39, .ref m40, .long v41])), (m17, .inl (k 0, 30, .inl f17)), (m39, .inl (k 0, 44, .inl f39))] sz) := by
  refine Met.ofW (cc := cX12_townHas) (maxL := 4) (ret := (some .int)) (by decide +kernel) rfl ?_
  intro p e s m args below meth c s₁ B hml hv
  obtain ⟨rfl, hsz, hP, hK, hD0, hN⟩ := hv
  have hx := B.exec
  have hb := B.bytes
  have hr := B.returns
  have hts : ∀ w ∈ TT, w.before _ s = true := fun w h => atoms_spec (ws := ww yX12_townHas cX12_townHas 4 (some .int)) B.pre w (List.mem_cons_of_mem _ h)
  have hown : s.vm.findClass RX12 = some m.cls := findClass_of_methodNamed B.named
  have hlocks := B.notSynchronized
  subst hsz
  have hD := hD0.self (sz := s.heap.size)
  generalize hAe : va_A [(mo, .inr (12, [.int v0, .ref m1, .ref m2, .ref m3, .ref m4, .ref m5, .int v6, .int v7, .int v8, .int v9, .int v10, .long v11, .int v12, .int v13, .int v14, .int v15, .ref m16, .ref m17, .ref m18, .ref m19, .ref m20, .ref m21, .ref m22, .ref m23, .int v24, .ref m25, .ref m26, .ref m27, .ref m28, .ref m29, .int v30, .ref m31, .ref m32, .ref m33, .int v34, .int v35, .int v36, .ref m37, .ref m38, .ref m39, .ref m40, .long v41])), (m17, .inl (k 0, 30, .inl f17)), (m39, .inl (k 0, 44, .inl f39))] s.heap.size = A at hD ⊢
  have hA : ∀ q : Nat, s.heap.size ≤ q → A q := fun q h => by rw [← hAe]; exact Or.inr h
  have hS : va_S A s.heap s.heap [] := va_S.rf
  have hl := lv_entry ([.ref mo, .int p0]) (n := 4) (Nat.le_of_ble_eq_true rfl)
  rw [lg_entry_eq]
  generalize (lg_sl ([.ref mo, .int p0]) ++ List.replicate (4 - (lg_sl ([.ref mo, .int p0])).length) Slot.unset).toArray = ls at hl ⊢
  have hl : lv_has ls 4 [(0, .ref mo), (1, .int p0)] := hl
  refine lv_aload_n hx hb dX12_townHas_0 rfl (lv_at hl 0 rfl) ?_
  refine va_get (D := D) (ci := 12) (v := .int v24) (C := RX12) (T := TX12) (N := 42) hx hb hts iT_X12 hown hK hP 0 rfl rfl 24 (by decide) (hts _ tw_6_77) (fun _ h9 => h9) rfl dX12_townHas_1 ?_
  refine lv_if_ne (tgt := 20) hx hb dX12_townHas_4 (by decide) (fun h_1 => ?_) (fun h_1 => ?_)
  · skip
    have zh_1 : ¬ v24.toInt = 0 := z_ne h_1
    refine lv_iconst (v := 0) hx hb dX12_townHas_20 (by decide) ?_
    refine lv_istore_n (lv' := [(2, .int 0), (0, .ref mo), (1, .int p0)]) hx hb dX12_townHas_21 rfl hl (by decide) rfl (fun ls hl => ?_)
    refine lv_iconst (v := 0) hx hb dX12_townHas_22 (by decide) ?_
    refine lv_istore_n (lv' := [(3, .int 0), (2, .int 0), (0, .ref mo), (1, .int p0)]) hx hb dX12_townHas_23 rfl hl (by decide) rfl (fun ls hl => ?_)
    refine loop_r (Wg := fun H locs ls => W p l e _ s m _ below meth c H locs _ _ _ (F0 m 24 ls [])) (fun n9 H locs ls => ∃ (L24l2 : Int32) (L24l3 : Int32), n9 = (10 - L24l3.toInt).toNat ∧ (0 ≤ L24l2.toInt ∧ L24l2.toInt ≤ 2147483647) ∧ (0 ≤ L24l3.toInt ∧ L24l3.toInt ≤ 10) ∧ va_P D vwCl [(mo, .inr (12, [.int v0, .ref m1, .ref m2, .ref m3, .ref m4, .ref m5, .int v6, .int v7, .int v8, .int v9, .int v10, .long v11, .int v12, .int v13, .int v14, .int v15, .ref m16, .ref m17, .ref m18, .ref m19, .ref m20, .ref m21, .ref m22, .ref m23, .int v24, .ref m25, .ref m26, .ref m27, .ref m28, .ref m29, .int v30, .ref m31, .ref m32, .ref m33, .int v34, .int v35, .int v36, .ref m37, .ref m38, .ref m39, .ref m40, .long v41])), (m17, .inl (k 0, 30, .inl f17)), (m39, .inl (k 0, 44, .inl f39))] H ∧ va_D A [(mo, .inr (12, [.int v0, .ref m1, .ref m2, .ref m3, .ref m4, .ref m5, .int v6, .int v7, .int v8, .int v9, .int v10, .long v11, .int v12, .int v13, .int v14, .int v15, .ref m16, .ref m17, .ref m18, .ref m19, .ref m20, .ref m21, .ref m22, .ref m23, .int v24, .ref m25, .ref m26, .ref m27, .ref m28, .ref m29, .int v30, .ref m31, .ref m32, .ref m33, .int v34, .int v35, .int v36, .ref m37, .ref m38, .ref m39, .ref m40, .long v41])), (m17, .inl (k 0, 30, .inl f17)), (m39, .inl (k 0, 44, .inl f39))] ∧ va_S A s.heap H locs ∧ lv_has ls 4 [(0, .ref mo), (1, .int p0), (2, .int L24l2), (3, .int L24l3)]) (fun n9 H locs ls hI ih_2 => ?_) _ _ _ _ ⟨0, 0, rfl, (show 0 ≤ 0 ∧ 0 ≤ 2147483647 from by omega), (show 0 ≤ 0 ∧ 0 ≤ 10 from by omega), hP.sub (ws' := [(mo, .inr (12, [.int v0, .ref m1, .ref m2, .ref m3, .ref m4, .ref m5, .int v6, .int v7, .int v8, .int v9, .int v10, .long v11, .int v12, .int v13, .int v14, .int v15, .ref m16, .ref m17, .ref m18, .ref m19, .ref m20, .ref m21, .ref m22, .ref m23, .int v24, .ref m25, .ref m26, .ref m27, .ref m28, .ref m29, .int v30, .ref m31, .ref m32, .ref m33, .int v34, .int v35, .int v36, .ref m37, .ref m38, .ref m39, .ref m40, .long v41])), (m17, .inl (k 0, 30, .inl f17)), (m39, .inl (k 0, 44, .inl f39))]) [0, 1, 2] rfl, hD.sub (ws' := [(mo, .inr (12, [.int v0, .ref m1, .ref m2, .ref m3, .ref m4, .ref m5, .int v6, .int v7, .int v8, .int v9, .int v10, .long v11, .int v12, .int v13, .int v14, .int v15, .ref m16, .ref m17, .ref m18, .ref m19, .ref m20, .ref m21, .ref m22, .ref m23, .int v24, .ref m25, .ref m26, .ref m27, .ref m28, .ref m29, .int v30, .ref m31, .ref m32, .ref m33, .int v34, .int v35, .int v36, .ref m37, .ref m38, .ref m39, .ref m40, .long v41])), (m17, .inl (k 0, 30, .inl f17)), (m39, .inl (k 0, 44, .inl f39))]) [0, 1, 2] (by decide) rfl, hS, lv_sub hl [2, 3, 1, 0] rfl⟩
    clear hP hD hS hl
    obtain ⟨L24l2, L24l3, en_3, zL24l2, zL24l3, hP, hD, hS, hl⟩ := hI
    refine lv_iload_n hx hb dX12_townHas_24 rfl (lv_at hl 3 rfl) ?_
    refine lv_aload_n hx hb dX12_townHas_25 rfl (lv_at hl 0 rfl) ?_
    refine va_get (D := D) (ci := 12) (v := .ref m17) (C := RX12) (T := TX12) (N := 42) hx hb hts iT_X12 hown hK hP 0 rfl rfl 17 (by decide) (hts _ tw_6_70) (fun _ h9 => h9) rfl dX12_townHas_26 ?_
    refine lv_iconst (v := 1) hx hb dX12_townHas_29 (by decide) ?_
    refine va_iald hx hb hK hP 1 0 rfl rfl (z_in (by decide) (by decide)) dX12_townHas_30 ?_
    refine lv_topi (fun x_4 ex_4 => ?_)
    have zx_4r1 : 0 ≤ x_4.toInt ∧ x_4.toInt ≤ 10 := by rw [ex_4]; exact PR.ld hp_f17_1 (by decide) (by decide) (by decide)
    refine lv_icmp_ge (tgt := 71) hx hb dX12_townHas_31 (by decide) (fun h_5 => ?_) (fun h_5 => ?_)
    · skip
      have zh_5 : x_4.toInt ≤ L24l3.toInt := z_le h_5
      refine lv_iload_n hx hb dX12_townHas_71 rfl (lv_at hl 2 rfl) ?_
      have hP9 := hP.sub (ws' := [(mo, .inr (12, [.int v0, .ref m1, .ref m2, .ref m3, .ref m4, .ref m5, .int v6, .int v7, .int v8, .int v9, .int v10, .long v11, .int v12, .int v13, .int v14, .int v15, .ref m16, .ref m17, .ref m18, .ref m19, .ref m20, .ref m21, .ref m22, .ref m23, .int v24, .ref m25, .ref m26, .ref m27, .ref m28, .ref m29, .int v30, .ref m31, .ref m32, .ref m33, .int v34, .int v35, .int v36, .ref m37, .ref m38, .ref m39, .ref m40, .long v41])), (m17, .inl (k 0, 30, .inl f17)), (m39, .inl (k 0, 44, .inl f39))]) [0, 1, 2] rfl
      have hD9 := hD.sub (ws' := [(mo, .inr (12, [.int v0, .ref m1, .ref m2, .ref m3, .ref m4, .ref m5, .int v6, .int v7, .int v8, .int v9, .int v10, .long v11, .int v12, .int v13, .int v14, .int v15, .ref m16, .ref m17, .ref m18, .ref m19, .ref m20, .ref m21, .ref m22, .ref m23, .int v24, .ref m25, .ref m26, .ref m27, .ref m28, .ref m29, .int v30, .ref m31, .ref m32, .ref m33, .int v34, .int v35, .int v36, .ref m37, .ref m38, .ref m39, .ref m40, .long v41])), (m17, .inl (k 0, 30, .inl f17)), (m39, .inl (k 0, 44, .inl f39))]) [0, 1, 2] (by decide) rfl
      exact W.iret (v := L24l2) hx hb hr (fun tZ ht hW => ⟨⟨L24l2, (), rfl, trivial, by rw [ht]; exact hP9, va_K.moved hW.alike hK, hD9⟩, hS.F ht⟩) hS.2.2 dX12_townHas_72
    · skip
      have zh_5 : L24l3.toInt < x_4.toInt := z_nle h_5
      refine lv_aload_n hx hb dX12_townHas_34 rfl (lv_at hl 0 rfl) ?_
      refine va_get (D := D) (ci := 12) (v := .ref m39) (C := RX12) (T := TX12) (N := 42) hx hb hts iT_X12 hown hK hP 0 rfl rfl 39 (by decide) (hts _ tw_6_92) (fun _ h9 => h9) rfl dX12_townHas_35 ?_
      refine lv_bipush (v := 11) hx hb dX12_townHas_38 (by decide) ?_
      refine lv_iload_n hx hb dX12_townHas_40 rfl (lv_at hl 1 rfl) ?_
      refine lv_imul hx hb dX12_townHas_41 ?_
      refine lv_topi (fun x_6 ex_6 => ?_)
      have zx_6 : x_6.toInt = 11 * p0.toInt := by rw [ex_6]; exact z_mul rfl rfl (by omega) (by omega)
      refine lv_iload_n hx hb dX12_townHas_42 rfl (lv_at hl 3 rfl) ?_
      refine lv_iadd hx hb dX12_townHas_43 ?_
      refine lv_topi (fun x_7 ex_7 => ?_)
      have zx_7 : x_7.toInt = x_6.toInt + L24l3.toInt := by rw [ex_7]; exact z_add rfl rfl (by omega) (by omega)
      refine va_iald hx hb hK hP 2 0 rfl rfl (z_in (by omega) (by omega)) dX12_townHas_44 ?_
      refine lv_topi (fun x_8 ex_8 => ?_)
      refine lv_iload_n hx hb dX12_townHas_45 rfl (lv_at hl 2 rfl) ?_
      refine lv_icmp_le (tgt := 63) hx hb dX12_townHas_46 (by decide) (fun h_9 => ?_) (fun h_9 => ?_)
      · skip
        have zh_9 : x_8.toInt ≤ L24l2.toInt := z_le h_9
        refine lv_iload_n hx hb dX12_townHas_63 rfl (lv_at hl 2 rfl) ?_
        refine lv_istore_n (lv' := [(2, .int L24l2), (0, .ref mo), (1, .int p0), (3, .int L24l3)]) hx hb dX12_townHas_64 rfl hl (by decide) rfl (fun ls hl => ?_)
        obtain ⟨x_10, ex_10⟩ : ∃ y : Int32, y = L24l3 + 1 := ⟨_, rfl⟩
        have zx_10 : x_10.toInt = L24l3.toInt + 1 := by rw [ex_10]; exact z_add rfl rfl (by omega) (by omega)
        refine lv_iinc (v := x_10) (lv' := [(3, .int x_10), (2, .int L24l2), (0, .ref mo), (1, .int p0)]) hx hb dX12_townHas_65 hl (k := 3) rfl (by rw [ex_10]; rfl) (by decide) rfl (fun ls hl => ?_)
        refine lv_goto (tgt := 24) hx hb dX12_townHas_68 (by decide) ?_
        exact ih_2 _ _ _ _ (by omega) ⟨L24l2, x_10, rfl, (show 0 ≤ L24l2.toInt ∧ L24l2.toInt ≤ 2147483647 from by have := z_rng L24l2; omega), (show 0 ≤ x_10.toInt ∧ x_10.toInt ≤ 10 from by omega), hP.sub (ws' := [(mo, .inr (12, [.int v0, .ref m1, .ref m2, .ref m3, .ref m4, .ref m5, .int v6, .int v7, .int v8, .int v9, .int v10, .long v11, .int v12, .int v13, .int v14, .int v15, .ref m16, .ref m17, .ref m18, .ref m19, .ref m20, .ref m21, .ref m22, .ref m23, .int v24, .ref m25, .ref m26, .ref m27, .ref m28, .ref m29, .int v30, .ref m31, .ref m32, .ref m33, .int v34, .int v35, .int v36, .ref m37, .ref m38, .ref m39, .ref m40, .long v41])), (m17, .inl (k 0, 30, .inl f17)), (m39, .inl (k 0, 44, .inl f39))]) [0, 1, 2] rfl, hD.sub (ws' := [(mo, .inr (12, [.int v0, .ref m1, .ref m2, .ref m3, .ref m4, .ref m5, .int v6, .int v7, .int v8, .int v9, .int v10, .long v11, .int v12, .int v13, .int v14, .int v15, .ref m16, .ref m17, .ref m18, .ref m19, .ref m20, .ref m21, .ref m22, .ref m23, .int v24, .ref m25, .ref m26, .ref m27, .ref m28, .ref m29, .int v30, .ref m31, .ref m32, .ref m33, .int v34, .int v35, .int v36, .ref m37, .ref m38, .ref m39, .ref m40, .long v41])), (m17, .inl (k 0, 30, .inl f17)), (m39, .inl (k 0, 44, .inl f39))]) [0, 1, 2] (by decide) rfl, hS, lv_sub hl [2, 3, 1, 0] rfl⟩
      · skip
        have zh_9 : L24l2.toInt < x_8.toInt := z_nle h_9
        refine lv_aload_n hx hb dX12_townHas_49 rfl (lv_at hl 0 rfl) ?_
        refine va_get (D := D) (ci := 12) (v := .ref m39) (C := RX12) (T := TX12) (N := 42) hx hb hts iT_X12 hown hK hP 0 rfl rfl 39 (by decide) (hts _ tw_6_92) (fun _ h9 => h9) rfl dX12_townHas_50 ?_
        refine lv_bipush (v := 11) hx hb dX12_townHas_53 (by decide) ?_
        refine lv_iload_n hx hb dX12_townHas_55 rfl (lv_at hl 1 rfl) ?_
        refine lv_imul hx hb dX12_townHas_56 ?_
        refine lv_topi (fun x_11 ex_11 => ?_)
        obtain rfl : x_6 = x_11 := ex_6.trans ex_11.symm
        refine lv_iload_n hx hb dX12_townHas_57 rfl (lv_at hl 3 rfl) ?_
        refine lv_iadd hx hb dX12_townHas_58 ?_
        refine lv_topi (fun x_12 ex_12 => ?_)
        obtain rfl : x_7 = x_12 := ex_7.trans ex_12.symm
        refine va_iald hx hb hK hP 2 0 rfl rfl (z_in (by omega) (by omega)) dX12_townHas_59 ?_
        refine lv_topi (fun x_13 ex_13 => ?_)
        obtain rfl : x_8 = x_13 := ex_8.trans ex_13.symm
        refine lv_goto (tgt := 64) hx hb dX12_townHas_60 (by decide) ?_
        refine lv_istore_n (lv' := [(2, .int x_8), (0, .ref mo), (1, .int p0), (3, .int L24l3)]) hx hb dX12_townHas_64 rfl hl (by decide) rfl (fun ls hl => ?_)
        obtain ⟨x_14, ex_14⟩ : ∃ y : Int32, y = L24l3 + 1 := ⟨_, rfl⟩
        have zx_14 : x_14.toInt = L24l3.toInt + 1 := by rw [ex_14]; exact z_add rfl rfl (by omega) (by omega)
        refine lv_iinc (v := x_14) (lv' := [(3, .int x_14), (2, .int x_8), (0, .ref mo), (1, .int p0)]) hx hb dX12_townHas_65 hl (k := 3) rfl (by rw [ex_14]; rfl) (by decide) rfl (fun ls hl => ?_)
        refine lv_goto (tgt := 24) hx hb dX12_townHas_68 (by decide) ?_
        exact ih_2 _ _ _ _ (by omega) ⟨x_8, x_14, rfl, (show 0 ≤ x_8.toInt ∧ x_8.toInt ≤ 2147483647 from by have := z_rng x_8; omega), (show 0 ≤ x_14.toInt ∧ x_14.toInt ≤ 10 from by omega), hP.sub (ws' := [(mo, .inr (12, [.int v0, .ref m1, .ref m2, .ref m3, .ref m4, .ref m5, .int v6, .int v7, .int v8, .int v9, .int v10, .long v11, .int v12, .int v13, .int v14, .int v15, .ref m16, .ref m17, .ref m18, .ref m19, .ref m20, .ref m21, .ref m22, .ref m23, .int v24, .ref m25, .ref m26, .ref m27, .ref m28, .ref m29, .int v30, .ref m31, .ref m32, .ref m33, .int v34, .int v35, .int v36, .ref m37, .ref m38, .ref m39, .ref m40, .long v41])), (m17, .inl (k 0, 30, .inl f17)), (m39, .inl (k 0, 44, .inl f39))]) [0, 1, 2] rfl, hD.sub (ws' := [(mo, .inr (12, [.int v0, .ref m1, .ref m2, .ref m3, .ref m4, .ref m5, .int v6, .int v7, .int v8, .int v9, .int v10, .long v11, .int v12, .int v13, .int v14, .int v15, .ref m16, .ref m17, .ref m18, .ref m19, .ref m20, .ref m21, .ref m22, .ref m23, .int v24, .ref m25, .ref m26, .ref m27, .ref m28, .ref m29, .int v30, .ref m31, .ref m32, .ref m33, .int v34, .int v35, .int v36, .ref m37, .ref m38, .ref m39, .ref m40, .long v41])), (m17, .inl (k 0, 30, .inl f17)), (m39, .inl (k 0, 44, .inl f39))]) [0, 1, 2] (by decide) rfl, hS, lv_sub hl [2, 3, 1, 0] rfl⟩
  · skip
    have zh_1 : v24.toInt = 0 := z_eq h_1
    refine lv_aload_n hx hb dX12_townHas_7 rfl (lv_at hl 0 rfl) ?_
    refine va_get (D := D) (ci := 12) (v := .ref m39) (C := RX12) (T := TX12) (N := 42) hx hb hts iT_X12 hown hK hP 0 rfl rfl 39 (by decide) (hts _ tw_6_92) (fun _ h9 => h9) rfl dX12_townHas_8 ?_
    refine lv_bipush (v := 11) hx hb dX12_townHas_11 (by decide) ?_
    refine lv_iload_n hx hb dX12_townHas_13 rfl (lv_at hl 1 rfl) ?_
    refine lv_imul hx hb dX12_townHas_14 ?_
    refine lv_topi (fun x_15 ex_15 => ?_)
    have zx_15 : x_15.toInt = 11 * p0.toInt := by rw [ex_15]; exact z_mul rfl rfl (by omega) (by omega)
    refine lv_bipush (v := 10) hx hb dX12_townHas_15 (by decide) ?_
    refine lv_iadd hx hb dX12_townHas_17 ?_
    refine lv_topi (fun x_16 ex_16 => ?_)
    have zx_16 : x_16.toInt = x_15.toInt + 10 := by rw [ex_16]; exact z_add rfl rfl (by omega) (by omega)
    refine va_iald hx hb hK hP 2 0 rfl rfl (z_in (by omega) (by omega)) dX12_townHas_18 ?_
    refine lv_topi (fun x_17 ex_17 => ?_)
    have hP9 := hP.sub (ws' := [(mo, .inr (12, [.int v0, .ref m1, .ref m2, .ref m3, .ref m4, .ref m5, .int v6, .int v7, .int v8, .int v9, .int v10, .long v11, .int v12, .int v13, .int v14, .int v15, .ref m16, .ref m17, .ref m18, .ref m19, .ref m20, .ref m21, .ref m22, .ref m23, .int v24, .ref m25, .ref m26, .ref m27, .ref m28, .ref m29, .int v30, .ref m31, .ref m32, .ref m33, .int v34, .int v35, .int v36, .ref m37, .ref m38, .ref m39, .ref m40, .long v41])), (m17, .inl (k 0, 30, .inl f17)), (m39, .inl (k 0, 44, .inl f39))]) [0, 1, 2] rfl
    have hD9 := hD.sub (ws' := [(mo, .inr (12, [.int v0, .ref m1, .ref m2, .ref m3, .ref m4, .ref m5, .int v6, .int v7, .int v8, .int v9, .int v10, .long v11, .int v12, .int v13, .int v14, .int v15, .ref m16, .ref m17, .ref m18, .ref m19, .ref m20, .ref m21, .ref m22, .ref m23, .int v24, .ref m25, .ref m26, .ref m27, .ref m28, .ref m29, .int v30, .ref m31, .ref m32, .ref m33, .int v34, .int v35, .int v36, .ref m37, .ref m38, .ref m39, .ref m40, .long v41])), (m17, .inl (k 0, 30, .inl f17)), (m39, .inl (k 0, 44, .inl f39))]) [0, 1, 2] (by decide) rfl
    exact W.iret (v := x_17) hx hb hr (fun tZ ht hW => ⟨⟨x_17, (), rfl, trivial, by rw [ht]; exact hP9, va_K.moved hW.alike hK, hD9⟩, hS.F ht⟩) hS.2.2 dX12_townHas_19
set_option maxHeartbeats 4000000 in
set_option maxRecDepth 100000 in
theorem c_X12_isFull (l : Launch) (D : va_G) (k : Nat → ClassId) (mo : Nat) (v0 : Int32) (m1 : Nat) (m2 : Nat) (m3 : Nat) (m4 : Nat) (m5 : Nat) (v6 : Int32) (v7 : Int32) (v8 : Int32) (v9 : Int32) (v10 : Int32) (v11 : Int64) (v12 : Int32) (v13 : Int32) (v14 : Int32) (v15 : Int32) (m16 : Nat) (m17 : Nat) (m18 : Nat) (m19 : Nat) (m20 : Nat) (m21 : Nat) (m22 : Nat) (m23 : Nat) (v24 : Int32) (m25 : Nat) (m26 : Nat) (m27 : Nat) (m28 : Nat) (m29 : Nat) (v30 : Int32) (m31 : Nat) (m32 : Nat) (m33 : Nat) (v34 : Int32) (v35 : Int32) (v36 : Int32) (m37 : Nat) (m38 : Nat) (m39 : Nat) (m40 : Nat) (v41 : Int64) (f17 : Nat → Int32) (sz : Nat) (h_v6 : 0 ≤ v6.toInt ∧ v6.toInt ≤ 1000) (h_v24 : 0 ≤ v24.toInt ∧ v24.toInt ≤ 1023) (hp_f17_0 : PR 30 6 0 0 8 f17) (hp_f17_1 : PR 30 6 1 0 10 f17) (hp_f17_2 : PR 30 6 2 0 4 f17) (hp_f17_3 : PR 30 6 3 0 6 f17) (hp_f17_4 : PR 30 6 4 0 2 f17) (hp_f17_5 : PR 30 6 5 0 40 f17) : Met l yX12_isFull (ww yX12_isFull cX12_isFull 1 (some .boolean)) ({ frames := 0, cells := 0, slots := 0, locals := 0 }) (Pre0 D k [(mo, .inr (12, [.int v0, .ref m1, .ref m2, .ref m3, .ref m4, .ref m5, .int v6, .int v7, .int v8, .int v9, .int v10, .long v11, .int v12, .int v13, .int v14, .int v15, .ref m16, .ref m17, .ref m18, .ref m19, .ref m20, .ref m21, .ref m22, .ref m23, .int v24, .ref m25, .ref m26, .ref m27, .ref m28, .ref m29, .int v30, .ref m31, .ref m32, .ref m33, .int v34, .int v35, .int v36, .ref m37, .ref m38, .ref m39, .ref m40, .long v41])), (m17, .inl (k 0, 30, .inl f17))] sz [.ref mo]) (va_Qi (fun (r : Int32) (_ : Unit) => (0 ≤ r.toInt ∧ r.toInt ≤ 1)) (fun (_ : Unit) tZ => Bw D k (va_A [(mo, .inr (12, [.int v0, .ref m1, .ref m2, .ref m3, .ref m4, .ref m5, .int v6, .int v7, .int v8, .int v9, .int v10, .long v11, .int v12, .int v13, .int v14, .int v15, .ref m16, .ref m17, .ref m18, .ref m19, .ref m20, .ref m21, .ref m22, .ref m23, .int v24, .ref m25, .ref m26, .ref m27, .ref m28, .ref m29, .int v30, .ref m31, .ref m32, .ref m33, .int v34, .int v35, .int v36, .ref m37, .ref m38, .ref m39, .ref m40, .long v41])), (m17, .inl (k 0, 30, .inl f17))] sz) [(mo, .inr (12, [.int v0, .ref m1, .ref m2, .ref m3, .ref m4, .ref m5, .int v6, .int v7, .int v8, .int v9, .int v10, .long v11, .int v12, .int v13, .int v14, .int v15, .ref m16, .ref m17, .ref m18, .ref m19, .ref m20, .ref m21, .ref m22, .ref m23, .int v24, .ref m25, .ref m26, .ref m27, .ref m28, .ref m29, .int v30, .ref m31, .ref m32, .ref m33, .int v34, .int v35, .int v36, .ref m37, .ref m38, .ref m39, .ref m40, .long v41])), (m17, .inl (k 0, 30, .inl f17))] tZ) (va_A [(mo, .inr (12, [.int v0, .ref m1, .ref m2, .ref m3, .ref m4, .ref m5, .int v6, .int v7, .int v8, .int v9, .int v10, .long v11, .int v12, .int v13, .int v14, .int v15, .ref m16, .ref m17, .ref m18, .ref m19, .ref m20, .ref m21, .ref m22, .ref m23, .int v24, .ref m25, .ref m26, .ref m27, .ref m28, .ref m29, .int v30, .ref m31, .ref m32, .ref m33, .int v34, .int v35, .int v36, .ref m37, .ref m38, .ref m39, .ref m40, .long v41])), (m17, .inl (k 0, 30, .inl f17))] sz)) 0 0 (va_A [(mo, .inr (12, [.int v0, .ref m1, .ref m2, .ref m3, .ref m4, .ref m5, .int v6, .int v7, .int v8, .int v9, .int v10, .long v11, .int v12, .int v13, .int v14, .int v15, .ref m16, .ref m17, .ref m18, .ref m19, .ref m20, .ref m21, .ref m22, .ref m23, .int v24, .ref m25, .ref m26, .ref m27, .ref m28, .ref m29, .int v30, .ref m31, .ref m32, .ref m33, .int v34, .int v35, .int v36, .ref m37, .ref m38, .ref m39, .ref m40, .long v41])), (m17, .inl (k 0, 30, .inl f17))] sz) := by
  refine Met.ofW (cc := cX12_isFull) (maxL := 1) (ret := (some .boolean)) (by decide +kernel) rfl ?_
  intro p e s m args below meth c s₁ B hml hv
  obtain ⟨rfl, hsz, hP, hK, hD0, hN⟩ := hv
  have hx := B.exec
  have hb := B.bytes
  have hr := B.returns
  have hts : ∀ w ∈ TT, w.before _ s = true := fun w h => atoms_spec (ws := ww yX12_isFull cX12_isFull 1 (some .boolean)) B.pre w (List.mem_cons_of_mem _ h)
  have hown : s.vm.findClass RX12 = some m.cls := findClass_of_methodNamed B.named
  have hlocks := B.notSynchronized
  subst hsz
  have hD := hD0.self (sz := s.heap.size)
  generalize hAe : va_A [(mo, .inr (12, [.int v0, .ref m1, .ref m2, .ref m3, .ref m4, .ref m5, .int v6, .int v7, .int v8, .int v9, .int v10, .long v11, .int v12, .int v13, .int v14, .int v15, .ref m16, .ref m17, .ref m18, .ref m19, .ref m20, .ref m21, .ref m22, .ref m23, .int v24, .ref m25, .ref m26, .ref m27, .ref m28, .ref m29, .int v30, .ref m31, .ref m32, .ref m33, .int v34, .int v35, .int v36, .ref m37, .ref m38, .ref m39, .ref m40, .long v41])), (m17, .inl (k 0, 30, .inl f17))] s.heap.size = A at hD ⊢
  have hA : ∀ q : Nat, s.heap.size ≤ q → A q := fun q h => by rw [← hAe]; exact Or.inr h
  have hS : va_S A s.heap s.heap [] := va_S.rf
  have hl := lv_entry ([.ref mo]) (n := 1) (Nat.le_of_ble_eq_true rfl)
  rw [lg_entry_eq]
  generalize (lg_sl ([.ref mo]) ++ List.replicate (1 - (lg_sl ([.ref mo])).length) Slot.unset).toArray = ls at hl ⊢
  have hl : lv_has ls 1 [(0, .ref mo)] := hl
  refine lv_aload_n hx hb dX12_isFull_0 rfl (lv_at hl 0 rfl) ?_
  refine va_get (D := D) (ci := 12) (v := .ref m17) (C := RX12) (T := TX12) (N := 42) hx hb hts iT_X12 hown hK hP 0 rfl rfl 17 (by decide) (hts _ tw_6_70) (fun _ h9 => h9) rfl dX12_isFull_1 ?_
  refine lv_iconst (v := 5) hx hb dX12_isFull_4 (by decide) ?_
  refine va_iald hx hb hK hP 1 0 rfl rfl (z_in (by decide) (by decide)) dX12_isFull_5 ?_
  refine lv_topi (fun x_1 ex_1 => ?_)
  have zx_1r5 : 0 ≤ x_1.toInt ∧ x_1.toInt ≤ 40 := by rw [ex_1]; exact PR.ld hp_f17_5 (by decide) (by decide) (by decide)
  refine lv_bipush (v := 40) hx hb dX12_isFull_6 (by decide) ?_
  refine lv_icmp_ne (tgt := 15) hx hb dX12_isFull_8 (by decide) (fun h_2 => ?_) (fun h_2 => ?_)
  · skip
    have zh_2 : ¬ x_1.toInt = 40 := z_ne h_2
    refine lv_iconst (v := 0) hx hb dX12_isFull_15 (by decide) ?_
    have hP9 := hP.sub (ws' := [(mo, .inr (12, [.int v0, .ref m1, .ref m2, .ref m3, .ref m4, .ref m5, .int v6, .int v7, .int v8, .int v9, .int v10, .long v11, .int v12, .int v13, .int v14, .int v15, .ref m16, .ref m17, .ref m18, .ref m19, .ref m20, .ref m21, .ref m22, .ref m23, .int v24, .ref m25, .ref m26, .ref m27, .ref m28, .ref m29, .int v30, .ref m31, .ref m32, .ref m33, .int v34, .int v35, .int v36, .ref m37, .ref m38, .ref m39, .ref m40, .long v41])), (m17, .inl (k 0, 30, .inl f17))]) [0, 1] rfl
    have hD9 := hD.sub (ws' := [(mo, .inr (12, [.int v0, .ref m1, .ref m2, .ref m3, .ref m4, .ref m5, .int v6, .int v7, .int v8, .int v9, .int v10, .long v11, .int v12, .int v13, .int v14, .int v15, .ref m16, .ref m17, .ref m18, .ref m19, .ref m20, .ref m21, .ref m22, .ref m23, .int v24, .ref m25, .ref m26, .ref m27, .ref m28, .ref m29, .int v30, .ref m31, .ref m32, .ref m33, .int v34, .int v35, .int v36, .ref m37, .ref m38, .ref m39, .ref m40, .long v41])), (m17, .inl (k 0, 30, .inl f17))]) [0, 1] (by decide) rfl
    exact W.zret (v := 0) hx hb hr (by decide) (fun tZ ht hW => ⟨⟨0, (), rfl, (show 0 ≤ 0 ∧ 0 ≤ 1 from by omega), by rw [ht]; exact hP9, va_K.moved hW.alike hK, hD9⟩, hS.F ht⟩) hS.2.2 dX12_isFull_16
  · skip
    have zh_2 : x_1.toInt = 40 := z_eq h_2
    refine lv_iconst (v := 1) hx hb dX12_isFull_11 (by decide) ?_
    refine lv_goto (tgt := 16) hx hb dX12_isFull_12 (by decide) ?_
    have hP9 := hP.sub (ws' := [(mo, .inr (12, [.int v0, .ref m1, .ref m2, .ref m3, .ref m4, .ref m5, .int v6, .int v7, .int v8, .int v9, .int v10, .long v11, .int v12, .int v13, .int v14, .int v15, .ref m16, .ref m17, .ref m18, .ref m19, .ref m20, .ref m21, .ref m22, .ref m23, .int v24, .ref m25, .ref m26, .ref m27, .ref m28, .ref m29, .int v30, .ref m31, .ref m32, .ref m33, .int v34, .int v35, .int v36, .ref m37, .ref m38, .ref m39, .ref m40, .long v41])), (m17, .inl (k 0, 30, .inl f17))]) [0, 1] rfl
    have hD9 := hD.sub (ws' := [(mo, .inr (12, [.int v0, .ref m1, .ref m2, .ref m3, .ref m4, .ref m5, .int v6, .int v7, .int v8, .int v9, .int v10, .long v11, .int v12, .int v13, .int v14, .int v15, .ref m16, .ref m17, .ref m18, .ref m19, .ref m20, .ref m21, .ref m22, .ref m23, .int v24, .ref m25, .ref m26, .ref m27, .ref m28, .ref m29, .int v30, .ref m31, .ref m32, .ref m33, .int v34, .int v35, .int v36, .ref m37, .ref m38, .ref m39, .ref m40, .long v41])), (m17, .inl (k 0, 30, .inl f17))]) [0, 1] (by decide) rfl
    exact W.zret (v := 1) hx hb hr (by decide) (fun tZ ht hW => ⟨⟨1, (), rfl, (show 0 ≤ 1 ∧ 1 ≤ 1 from by omega), by rw [ht]; exact hP9, va_K.moved hW.alike hK, hD9⟩, hS.F ht⟩) hS.2.2 dX12_isFull_16
set_option maxHeartbeats 4000000 in
set_option maxRecDepth 100000 in
theorem c_X12_acts (l : Launch) (D : va_G) (k : Nat → ClassId) (mo : Nat) (p0 : Int32) (p1 : Int32) (p2 : Int32) (v0 : Int32) (m1 : Nat) (m2 : Nat) (m3 : Nat) (m4 : Nat) (m5 : Nat) (v6 : Int32) (v7 : Int32) (v8 : Int32) (v9 : Int32) (v10 : Int32) (v11 : Int64) (v12 : Int32) (v13 : Int32) (v14 : Int32) (v15 : Int32) (m16 : Nat) (m17 : Nat) (m18 : Nat) (m19 : Nat) (m20 : Nat) (m21 : Nat) (m22 : Nat) (m23 : Nat) (v24 : Int32) (m25 : Nat) (m26 : Nat) (m27 : Nat) (m28 : Nat) (m29 : Nat) (v30 : Int32) (m31 : Nat) (m32 : Nat) (m33 : Nat) (v34 : Int32) (v35 : Int32) (v36 : Int32) (m37 : Nat) (m38 : Nat) (m39 : Nat) (m40 : Nat) (v41 : Int64) (f17 : Nat → Int32) (f22 : Nat → Int32) (sz : Nat) (h_v6 : 0 ≤ v6.toInt ∧ v6.toInt ≤ 1000) (h_v24 : 0 ≤ v24.toInt ∧ v24.toInt ≤ 1023) (hp_f17_0 : PR 30 6 0 0 8 f17) (hp_f17_1 : PR 30 6 1 0 10 f17) (hp_f17_2 : PR 30 6 2 0 4 f17) (hp_f17_3 : PR 30 6 3 0 6 f17) (hp_f17_4 : PR 30 6 4 0 2 f17) (hp_f17_5 : PR 30 6 5 0 40 f17) (hp_f22_0 : PR 600 3 1 0 9 f22) : Met l yX12_acts (ww yX12_acts cX12_acts 5 none) ({ frames := 0, cells := 0, slots := 0, locals := 0 }) (Pre0 D k [(mo, .inr (12, [.int v0, .ref m1, .ref m2, .ref m3, .ref m4, .ref m5, .int v6, .int v7, .int v8, .int v9, .int v10, .long v11, .int v12, .int v13, .int v14, .int v15, .ref m16, .ref m17, .ref m18, .ref m19, .ref m20, .ref m21, .ref m22, .ref m23, .int v24, .ref m25, .ref m26, .ref m27, .ref m28, .ref m29, .int v30, .ref m31, .ref m32, .ref m33, .int v34, .int v35, .int v36, .ref m37, .ref m38, .ref m39, .ref m40, .long v41])), (m17, .inl (k 0, 30, .inl f17)), (m22, .inl (k 0, 600, .inl f22))] sz [.ref mo, .int p0, .int p1, .int p2]) (va_Qv (fun (u : (Nat → Int32) × (Nat → Int32)) => match u with | (f17z, f22z) => (PR 30 6 0 0 8 f17z) ∧ (PR 30 6 1 0 10 f17z) ∧ (PR 30 6 2 0 4 f17z) ∧ (PR 30 6 3 0 6 f17z) ∧ (PR 30 6 4 0 2 f17z) ∧ (PR 30 6 5 0 41 f17z)) (fun (u : (Nat → Int32) × (Nat → Int32)) tZ => match u with | (f17z, f22z) => Bw D k (va_A [(mo, .inr (12, [.int v0, .ref m1, .ref m2, .ref m3, .ref m4, .ref m5, .int v6, .int v7, .int v8, .int v9, .int v10, .long v11, .int v12, .int v13, .int v14, .int v15, .ref m16, .ref m17, .ref m18, .ref m19, .ref m20, .ref m21, .ref m22, .ref m23, .int v24, .ref m25, .ref m26, .ref m27, .ref m28, .ref m29, .int v30, .ref m31, .ref m32, .ref m33, .int v34, .int v35, .int v36, .ref m37, .ref m38, .ref m39, .ref m40, .long v41])), (m17, .inl (k 0, 30, .inl f17)), (m22, .inl (k 0, 600, .inl f22))] sz) [(mo, .inr (12, [.int v0, .ref m1, .ref m2, .ref m3, .ref m4, .ref m5, .int v6, .int v7, .int v8, .int v9, .int v10, .long v11, .int v12, .int v13, .int v14, .int v15, .ref m16, .ref m17, .ref m18, .ref m19, .ref m20, .ref m21, .ref m22, .ref m23, .int v24, .ref m25, .ref m26, .ref m27, .ref m28, .ref m29, .int v30, .ref m31, .ref m32, .ref m33, .int v34, .int v35, .int v36, .ref m37, .ref m38, .ref m39, .ref m40, .long v41])), (m17, .inl (k 0, 30, .inl f17z)), (m22, .inl (k 0, 600, .inl f22z))] tZ) (va_A [(mo, .inr (12, [.int v0, .ref m1, .ref m2, .ref m3, .ref m4, .ref m5, .int v6, .int v7, .int v8, .int v9, .int v10, .long v11, .int v12, .int v13, .int v14, .int v15, .ref m16, .ref m17, .ref m18, .ref m19, .ref m20, .ref m21, .ref m22, .ref m23, .int v24, .ref m25, .ref m26, .ref m27, .ref m28, .ref m29, .int v30, .ref m31, .ref m32, .ref m33, .int v34, .int v35, .int v36, .ref m37, .ref m38, .ref m39, .ref m40, .long v41])), (m17, .inl (k 0, 30, .inl f17)), (m22, .inl (k 0, 600, .inl f22))] sz)) 0 0 (va_A [(mo, .inr (12, [.int v0, .ref m1, .ref m2, .ref m3, .ref m4, .ref m5, .int v6, .int v7, .int v8, .int v9, .int v10, .long v11, .int v12, .int v13, .int v14, .int v15, .ref m16, .ref m17, .ref m18, .ref m19, .ref m20, .ref m21, .ref m22, .ref m23, .int v24, .ref m25, .ref m26, .ref m27, .ref m28, .ref m29, .int v30, .ref m31, .ref m32, .ref m33, .int v34, .int v35, .int v36, .ref m37, .ref m38, .ref m39, .ref m40, .long v41])), (m17, .inl (k 0, 30, .inl f17)), (m22, .inl (k 0, 600, .inl f22))] sz) := by
  refine Met.ofW (cc := cX12_acts) (maxL := 5) (ret := none) (by decide +kernel) rfl ?_
  intro p e s m args below meth c s₁ B hml hv
  obtain ⟨rfl, hsz, hP, hK, hD0, hN⟩ := hv
  have hx := B.exec
  have hb := B.bytes
  have hr := B.returns
  have hts : ∀ w ∈ TT, w.before _ s = true := fun w h => atoms_spec (ws := ww yX12_acts cX12_acts 5 none) B.pre w (List.mem_cons_of_mem _ h)
  have hown : s.vm.findClass RX12 = some m.cls := findClass_of_methodNamed B.named
  have hlocks := B.notSynchronized
  subst hsz
  have hD := hD0.self (sz := s.heap.size)
  generalize hAe : va_A [(mo, .inr (12, [.int v0, .ref m1, .ref m2, .ref m3, .ref m4, .ref m5, .int v6, .int v7, .int v8, .int v9, .int v10, .long v11, .int v12, .int v13, .int v14, .int v15, .ref m16, .ref m17, .ref m18, .ref m19, .ref m20, .ref m21, .ref m22, .ref m23, .int v24, .ref m25, .ref m26, .ref m27, .ref m28, .ref m29, .int v30, .ref m31, .ref m32, .ref m33, .int v34, .int v35, .int v36, .ref m37, .ref m38, .ref m39, .ref m40, .long v41])), (m17, .inl (k 0, 30, .inl f17)), (m22, .inl (k 0, 600, .inl f22))] s.heap.size = A at hD ⊢
  have hA : ∀ q : Nat, s.heap.size ≤ q → A q := fun q h => by rw [← hAe]; exact Or.inr h
  have hS : va_S A s.heap s.heap [] := va_S.rf
  have hl := lv_entry ([.ref mo, .int p0, .int p1, .int p2]) (n := 5) (Nat.le_of_ble_eq_true rfl)
  rw [lg_entry_eq]
  generalize (lg_sl ([.ref mo, .int p0, .int p1, .int p2]) ++ List.replicate (5 - (lg_sl ([.ref mo, .int p0, .int p1, .int p2])).length) Slot.unset).toArray = ls at hl ⊢
  have hl : lv_has ls 5 [(0, .ref mo), (1, .int p0), (2, .int p1), (3, .int p2)] := hl
  refine lv_iconst (v := 3) hx hb dX12_acts_0 (by decide) ?_
  refine lv_aload_n hx hb dX12_acts_1 rfl (lv_at hl 0 rfl) ?_
  refine va_get (D := D) (ci := 12) (v := .ref m17) (C := RX12) (T := TX12) (N := 42) hx hb hts iT_X12 hown hK hP 0 rfl rfl 17 (by decide) (hts _ tw_6_70) (fun _ h9 => h9) rfl dX12_acts_2 ?_
  refine lv_iconst (v := 5) hx hb dX12_acts_5 (by decide) ?_
  refine va_iald hx hb hK hP 1 0 rfl rfl (z_in (by decide) (by decide)) dX12_acts_6 ?_
  refine lv_topi (fun x_1 ex_1 => ?_)
  have zx_1r5 : 0 ≤ x_1.toInt ∧ x_1.toInt ≤ 40 := by rw [ex_1]; exact PR.ld hp_f17_5 (by decide) (by decide) (by decide)
  refine lv_imul hx hb dX12_acts_7 ?_
  refine lv_topi (fun x_2 ex_2 => ?_)
  have zx_2 : x_2.toInt = 3 * x_1.toInt := by rw [ex_2]; exact z_mul rfl rfl (by omega) (by omega)
  refine lv_istore (lv' := [(4, .int x_2), (0, .ref mo), (1, .int p0), (2, .int p1), (3, .int p2)]) hx hb dX12_acts_8 hl (by decide) rfl (fun ls hl => ?_)
  refine lv_aload_n hx hb dX12_acts_10 rfl (lv_at hl 1 rfl) ?_
  refine va_get (D := D) (ci := 12) (v := .ref m22) (C := RX12) (T := TX12) (N := 42) hx hb hts iT_X12 hown hK hP 0 rfl rfl 22 (by decide) (hts _ tw_6_75) (fun _ h9 => h9) rfl dX12_acts_11 ?_
  refine lv_iload hx hb dX12_acts_14 (lv_at hl 0 rfl) ?_
  refine lv_iload_n hx hb dX12_acts_16 rfl (lv_at hl 2 rfl) ?_
  refine va_iast hx hb hK hP hD hS 2 0 rfl rfl (z_in (by omega) (by omega)) dX12_acts_17 (fun H locs hP hD hS => ?_)
  obtain ⟨g_3, eg_3⟩ : ∃ z : Nat → Int32, upd f22 x_2.toNatClampNeg p0 = z := ⟨_, rfl⟩
  have hP : va_P D vwCl [(mo, .inr (12, [.int v0, .ref m1, .ref m2, .ref m3, .ref m4, .ref m5, .int v6, .int v7, .int v8, .int v9, .int v10, .long v11, .int v12, .int v13, .int v14, .int v15, .ref m16, .ref m17, .ref m18, .ref m19, .ref m20, .ref m21, .ref m22, .ref m23, .int v24, .ref m25, .ref m26, .ref m27, .ref m28, .ref m29, .int v30, .ref m31, .ref m32, .ref m33, .int v34, .int v35, .int v36, .ref m37, .ref m38, .ref m39, .ref m40, .long v41])), (m17, .inl (k 0, 30, .inl f17)), (m22, .inl (k 0, 600, .inl (upd f22 x_2.toNatClampNeg p0)))] H := hP
  have hD : va_D A [(mo, .inr (12, [.int v0, .ref m1, .ref m2, .ref m3, .ref m4, .ref m5, .int v6, .int v7, .int v8, .int v9, .int v10, .long v11, .int v12, .int v13, .int v14, .int v15, .ref m16, .ref m17, .ref m18, .ref m19, .ref m20, .ref m21, .ref m22, .ref m23, .int v24, .ref m25, .ref m26, .ref m27, .ref m28, .ref m29, .int v30, .ref m31, .ref m32, .ref m33, .int v34, .int v35, .int v36, .ref m37, .ref m38, .ref m39, .ref m40, .long v41])), (m17, .inl (k 0, 30, .inl f17)), (m22, .inl (k 0, 600, .inl (upd f22 x_2.toNatClampNeg p0)))] := hD
  rw [eg_3] at hP hD
  have hp_4 : PR 600 3 1 0 9 g_3 := by rw [← eg_3]; exact PR.other hp_f22_0 (z_clm (by omega) (by omega))
  refine lv_aload_n hx hb dX12_acts_18 rfl (lv_at hl 1 rfl) ?_
  refine va_get (D := D) (ci := 12) (v := .ref m22) (C := RX12) (T := TX12) (N := 42) hx hb hts iT_X12 hown hK hP 0 rfl rfl 22 (by decide) (hts _ tw_6_75) (fun _ h9 => h9) rfl dX12_acts_19 ?_
  refine lv_iload hx hb dX12_acts_22 (lv_at hl 0 rfl) ?_
  refine lv_iconst (v := 1) hx hb dX12_acts_24 (by decide) ?_
  refine lv_iadd hx hb dX12_acts_25 ?_
  refine lv_topi (fun x_5 ex_5 => ?_)
  have zx_5 : x_5.toInt = x_2.toInt + 1 := by rw [ex_5]; exact z_add rfl rfl (by omega) (by omega)
  refine lv_iload_n hx hb dX12_acts_26 rfl (lv_at hl 3 rfl) ?_
  refine va_iast hx hb hK hP hD hS 2 0 rfl rfl (z_in (by omega) (by omega)) dX12_acts_27 (fun H locs hP hD hS => ?_)
  obtain ⟨g_6, eg_6⟩ : ∃ z : Nat → Int32, upd g_3 x_5.toNatClampNeg p1 = z := ⟨_, rfl⟩
  have hP : va_P D vwCl [(mo, .inr (12, [.int v0, .ref m1, .ref m2, .ref m3, .ref m4, .ref m5, .int v6, .int v7, .int v8, .int v9, .int v10, .long v11, .int v12, .int v13, .int v14, .int v15, .ref m16, .ref m17, .ref m18, .ref m19, .ref m20, .ref m21, .ref m22, .ref m23, .int v24, .ref m25, .ref m26, .ref m27, .ref m28, .ref m29, .int v30, .ref m31, .ref m32, .ref m33, .int v34, .int v35, .int v36, .ref m37, .ref m38, .ref m39, .ref m40, .long v41])), (m17, .inl (k 0, 30, .inl f17)), (m22, .inl (k 0, 600, .inl (upd g_3 x_5.toNatClampNeg p1)))] H := hP
  have hD : va_D A [(mo, .inr (12, [.int v0, .ref m1, .ref m2, .ref m3, .ref m4, .ref m5, .int v6, .int v7, .int v8, .int v9, .int v10, .long v11, .int v12, .int v13, .int v14, .int v15, .ref m16, .ref m17, .ref m18, .ref m19, .ref m20, .ref m21, .ref m22, .ref m23, .int v24, .ref m25, .ref m26, .ref m27, .ref m28, .ref m29, .int v30, .ref m31, .ref m32, .ref m33, .int v34, .int v35, .int v36, .ref m37, .ref m38, .ref m39, .ref m40, .long v41])), (m17, .inl (k 0, 30, .inl f17)), (m22, .inl (k 0, 600, .inl (upd g_3 x_5.toNatClampNeg p1)))] := hD
  rw [eg_6] at hP hD
  refine lv_aload_n hx hb dX12_acts_28 rfl (lv_at hl 1 rfl) ?_
  refine va_get (D := D) (ci := 12) (v := .ref m22) (C := RX12) (T := TX12) (N := 42) hx hb hts iT_X12 hown hK hP 0 rfl rfl 22 (by decide) (hts _ tw_6_75) (fun _ h9 => h9) rfl dX12_acts_29 ?_
  refine lv_iload hx hb dX12_acts_32 (lv_at hl 0 rfl) ?_
  refine lv_iconst (v := 2) hx hb dX12_acts_34 (by decide) ?_
  refine lv_iadd hx hb dX12_acts_35 ?_
  refine lv_topi (fun x_8 ex_8 => ?_)
  have zx_8 : x_8.toInt = x_2.toInt + 2 := by rw [ex_8]; exact z_add rfl rfl (by omega) (by omega)
  refine lv_iload_n hx hb dX12_acts_36 rfl (lv_at hl 4 rfl) ?_
  refine va_iast hx hb hK hP hD hS 2 0 rfl rfl (z_in (by omega) (by omega)) dX12_acts_37 (fun H locs hP hD hS => ?_)
  obtain ⟨g_9, eg_9⟩ : ∃ z : Nat → Int32, upd g_6 x_8.toNatClampNeg p2 = z := ⟨_, rfl⟩
  have hP : va_P D vwCl [(mo, .inr (12, [.int v0, .ref m1, .ref m2, .ref m3, .ref m4, .ref m5, .int v6, .int v7, .int v8, .int v9, .int v10, .long v11, .int v12, .int v13, .int v14, .int v15, .ref m16, .ref m17, .ref m18, .ref m19, .ref m20, .ref m21, .ref m22, .ref m23, .int v24, .ref m25, .ref m26, .ref m27, .ref m28, .ref m29, .int v30, .ref m31, .ref m32, .ref m33, .int v34, .int v35, .int v36, .ref m37, .ref m38, .ref m39, .ref m40, .long v41])), (m17, .inl (k 0, 30, .inl f17)), (m22, .inl (k 0, 600, .inl (upd g_6 x_8.toNatClampNeg p2)))] H := hP
  have hD : va_D A [(mo, .inr (12, [.int v0, .ref m1, .ref m2, .ref m3, .ref m4, .ref m5, .int v6, .int v7, .int v8, .int v9, .int v10, .long v11, .int v12, .int v13, .int v14, .int v15, .ref m16, .ref m17, .ref m18, .ref m19, .ref m20, .ref m21, .ref m22, .ref m23, .int v24, .ref m25, .ref m26, .ref m27, .ref m28, .ref m29, .int v30, .ref m31, .ref m32, .ref m33, .int v34, .int v35, .int v36, .ref m37, .ref m38, .ref m39, .ref m40, .long v41])), (m17, .inl (k 0, 30, .inl f17)), (m22, .inl (k 0, 600, .inl (upd g_6 x_8.toNatClampNeg p2)))] := hD
  rw [eg_9] at hP hD
  refine lv_aload_n hx hb dX12_acts_38 rfl (lv_at hl 1 rfl) ?_
  refine va_get (D := D) (ci := 12) (v := .ref m17) (C := RX12) (T := TX12) (N := 42) hx hb hts iT_X12 hown hK hP 0 rfl rfl 17 (by decide) (hts _ tw_6_70) (fun _ h9 => h9) rfl dX12_acts_39 ?_
  refine lv_iconst (v := 5) hx hb dX12_acts_42 (by decide) ?_
  refine lv_dup2_11 hx hb dX12_acts_43 rfl rfl ?_
  refine va_iald hx hb hK hP 1 0 rfl rfl (z_in (by decide) (by decide)) dX12_acts_44 ?_
  refine lv_topi (fun x_10 ex_10 => ?_)
  obtain rfl : x_1 = x_10 := ex_1.trans ex_10.symm
  refine lv_iconst (v := 1) hx hb dX12_acts_45 (by decide) ?_
  refine lv_iadd hx hb dX12_acts_46 ?_
  refine lv_topi (fun x_11 ex_11 => ?_)
  have zx_11 : x_11.toInt = x_1.toInt + 1 := by rw [ex_11]; exact z_add rfl rfl (by omega) (by omega)
  refine va_iast hx hb hK hP hD hS 1 0 rfl rfl (z_in (by decide) (by decide)) dX12_acts_47 (fun H locs hP hD hS => ?_)
  obtain ⟨g_12, eg_12⟩ : ∃ z : Nat → Int32, upd f17 5 x_11 = z := ⟨_, rfl⟩
  have hP : va_P D vwCl [(mo, .inr (12, [.int v0, .ref m1, .ref m2, .ref m3, .ref m4, .ref m5, .int v6, .int v7, .int v8, .int v9, .int v10, .long v11, .int v12, .int v13, .int v14, .int v15, .ref m16, .ref m17, .ref m18, .ref m19, .ref m20, .ref m21, .ref m22, .ref m23, .int v24, .ref m25, .ref m26, .ref m27, .ref m28, .ref m29, .int v30, .ref m31, .ref m32, .ref m33, .int v34, .int v35, .int v36, .ref m37, .ref m38, .ref m39, .ref m40, .long v41])), (m17, .inl (k 0, 30, .inl (upd f17 5 x_11))), (m22, .inl (k 0, 600, .inl g_9))] H := hP
  have hD : va_D A [(mo, .inr (12, [.int v0, .ref m1, .ref m2, .ref m3, .ref m4, .ref m5, .int v6, .int v7, .int v8, .int v9, .int v10, .long v11, .int v12, .int v13, .int v14, .int v15, .ref m16, .ref m17, .ref m18, .ref m19, .ref m20, .ref m21, .ref m22, .ref m23, .int v24, .ref m25, .ref m26, .ref m27, .ref m28, .ref m29, .int v30, .ref m31, .ref m32, .ref m33, .int v34, .int v35, .int v36, .ref m37, .ref m38, .ref m39, .ref m40, .long v41])), (m17, .inl (k 0, 30, .inl (upd f17 5 x_11))), (m22, .inl (k 0, 600, .inl g_9))] := hD
  rw [eg_12] at hP hD
  have hp_13 : PR 30 6 0 0 8 g_12 := by rw [← eg_12]; exact PR.other hp_f17_0 (by decide)
  have hp_14 : PR 30 6 1 0 10 g_12 := by rw [← eg_12]; exact PR.other hp_f17_1 (by decide)
  have hp_15 : PR 30 6 2 0 4 g_12 := by rw [← eg_12]; exact PR.other hp_f17_2 (by decide)
  have hp_16 : PR 30 6 3 0 6 g_12 := by rw [← eg_12]; exact PR.other hp_f17_3 (by decide)
  have hp_17 : PR 30 6 4 0 2 g_12 := by rw [← eg_12]; exact PR.other hp_f17_4 (by decide)
  have hp_18 : PR 30 6 5 0 41 g_12 := by rw [← eg_12]; exact PR.put (PR.wk hp_f17_5 (by decide) (by decide)) ⟨by omega, by omega⟩
  have hP9 := hP.sub (ws' := [(mo, .inr (12, [.int v0, .ref m1, .ref m2, .ref m3, .ref m4, .ref m5, .int v6, .int v7, .int v8, .int v9, .int v10, .long v11, .int v12, .int v13, .int v14, .int v15, .ref m16, .ref m17, .ref m18, .ref m19, .ref m20, .ref m21, .ref m22, .ref m23, .int v24, .ref m25, .ref m26, .ref m27, .ref m28, .ref m29, .int v30, .ref m31, .ref m32, .ref m33, .int v34, .int v35, .int v36, .ref m37, .ref m38, .ref m39, .ref m40, .long v41])), (m17, .inl (k 0, 30, .inl g_12)), (m22, .inl (k 0, 600, .inl g_9))]) [0, 1, 2] rfl
  have hD9 := hD.sub (ws' := [(mo, .inr (12, [.int v0, .ref m1, .ref m2, .ref m3, .ref m4, .ref m5, .int v6, .int v7, .int v8, .int v9, .int v10, .long v11, .int v12, .int v13, .int v14, .int v15, .ref m16, .ref m17, .ref m18, .ref m19, .ref m20, .ref m21, .ref m22, .ref m23, .int v24, .ref m25, .ref m26, .ref m27, .ref m28, .ref m29, .int v30, .ref m31, .ref m32, .ref m33, .int v34, .int v35, .int v36, .ref m37, .ref m38, .ref m39, .ref m40, .long v41])), (m17, .inl (k 0, 30, .inl g_12)), (m22, .inl (k 0, 600, .inl g_9))]) [0, 1, 2] (by decide) rfl
  exact W.vret hx hb hr (fun tZ ht hW => ⟨⟨(g_12, g_9), rfl, ⟨hp_13, hp_14, hp_15, hp_16, hp_17, hp_18⟩, by rw [ht]; exact hP9, va_K.moved hW.alike hK, hD9⟩, hS.F ht⟩) hS.2.2 dX12_acts_48
set_option maxHeartbeats 4000000 in
set_option maxRecDepth 100000 in
theorem c_X12_undo (l : Launch) (D : va_G) (k : Nat → ClassId) (mo : Nat) (v0 : Int32) (m1 : Nat) (m2 : Nat) (m3 : Nat) (m4 : Nat) (m5 : Nat) (v6 : Int32) (v7 : Int32) (v8 : Int32) (v9 : Int32) (v10 : Int32) (v11 : Int64) (v12 : Int32) (v13 : Int32) (v14 : Int32) (v15 : Int32) (m16 : Nat) (m17 : Nat) (m18 : Nat) (m19 : Nat) (m20 : Nat) (m21 : Nat) (m22 : Nat) (m23 : Nat) (v24 : Int32) (m25 : Nat) (m26 : Nat) (m27 : Nat) (m28 : Nat) (m29 : Nat) (v30 : Int32) (m31 : Nat) (m32 : Nat) (m33 : Nat) (v34 : Int32) (v35 : Int32) (v36 : Int32) (m37 : Nat) (m38 : Nat) (m39 : Nat) (m40 : Nat) (v41 : Int64) (f16 : Nat → Int32) (f17 : Nat → Int32) (sz : Nat) (h_v6 : 0 ≤ v6.toInt ∧ v6.toInt ≤ 1000) (h_v24 : 0 ≤ v24.toInt ∧ v24.toInt ≤ 1023) (hp_f17_0 : PR 30 6 0 0 8 f17) (hp_f17_1 : PR 30 6 1 0 10 f17) (hp_f17_2 : PR 30 6 2 0 4 f17) (hp_f17_3 : PR 30 6 3 0 6 f17) (hp_f17_4 : PR 30 6 4 0 2 f17) (hp_f17_5 : PR 30 6 5 0 40 f17) : Met l yX12_undo (ww yX12_undo cX12_undo 1 (some .int)) ({ frames := 1, cells := 0, slots := 0, locals := 20 }) (Pre0 D k [(mo, .inr (12, [.int v0, .ref m1, .ref m2, .ref m3, .ref m4, .ref m5, .int v6, .int v7, .int v8, .int v9, .int v10, .long v11, .int v12, .int v13, .int v14, .int v15, .ref m16, .ref m17, .ref m18, .ref m19, .ref m20, .ref m21, .ref m22, .ref m23, .int v24, .ref m25, .ref m26, .ref m27, .ref m28, .ref m29, .int v30, .ref m31, .ref m32, .ref m33, .int v34, .int v35, .int v36, .ref m37, .ref m38, .ref m39, .ref m40, .long v41])), (m16, .inl (k 0, 5, .inl f16)), (m17, .inl (k 0, 30, .inl f17))] sz [.ref mo]) (va_Qi (fun (r : Int32) (u : Int32 × (Nat → Int32)) => match u with | (v0z, f17z) => ((-5) ≤ r.toInt ∧ r.toInt ≤ 39) ∧ (0 ≤ v0z.toInt ∧ v0z.toInt ≤ 0) ∧ (PR 30 6 0 0 8 f17z) ∧ (PR 30 6 1 0 10 f17z) ∧ (PR 30 6 2 0 4 f17z) ∧ (PR 30 6 3 0 6 f17z) ∧ (PR 30 6 4 0 2 f17z) ∧ (PR 30 6 5 0 40 f17z)) (fun (u : Int32 × (Nat → Int32)) tZ => match u with | (v0z, f17z) => Bw D k (va_A [(mo, .inr (12, [.int v0, .ref m1, .ref m2, .ref m3, .ref m4, .ref m5, .int v6, .int v7, .int v8, .int v9, .int v10, .long v11, .int v12, .int v13, .int v14, .int v15, .ref m16, .ref m17, .ref m18, .ref m19, .ref m20, .ref m21, .ref m22, .ref m23, .int v24, .ref m25, .ref m26, .ref m27, .ref m28, .ref m29, .int v30, .ref m31, .ref m32, .ref m33, .int v34, .int v35, .int v36, .ref m37, .ref m38, .ref m39, .ref m40, .long v41])), (m16, .inl (k 0, 5, .inl f16)), (m17, .inl (k 0, 30, .inl f17))] sz) [(mo, .inr (12, [.int v0z, .ref m1, .ref m2, .ref m3, .ref m4, .ref m5, .int v6, .int v7, .int v8, .int v9, .int v10, .long v11, .int v12, .int v13, .int v14, .int v15, .ref m16, .ref m17, .ref m18, .ref m19, .ref m20, .ref m21, .ref m22, .ref m23, .int v24, .ref m25, .ref m26, .ref m27, .ref m28, .ref m29, .int v30, .ref m31, .ref m32, .ref m33, .int v34, .int v35, .int v36, .ref m37, .ref m38, .ref m39, .ref m40, .long v41])), (m16, .inl (k 0, 5, .inl f16)), (m17, .inl (k 0, 30, .inl f17z))] tZ) (va_A [(mo, .inr (12, [.int v0, .ref m1, .ref m2, .ref m3, .ref m4, .ref m5, .int v6, .int v7, .int v8, .int v9, .int v10, .long v11, .int v12, .int v13, .int v14, .int v15, .ref m16, .ref m17, .ref m18, .ref m19, .ref m20, .ref m21, .ref m22, .ref m23, .int v24, .ref m25, .ref m26, .ref m27, .ref m28, .ref m29, .int v30, .ref m31, .ref m32, .ref m33, .int v34, .int v35, .int v36, .ref m37, .ref m38, .ref m39, .ref m40, .long v41])), (m16, .inl (k 0, 5, .inl f16)), (m17, .inl (k 0, 30, .inl f17))] sz)) 0 0 (va_A [(mo, .inr (12, [.int v0, .ref m1, .ref m2, .ref m3, .ref m4, .ref m5, .int v6, .int v7, .int v8, .int v9, .int v10, .long v11, .int v12, .int v13, .int v14, .int v15, .ref m16, .ref m17, .ref m18, .ref m19, .ref m20, .ref m21, .ref m22, .ref m23, .int v24, .ref m25, .ref m26, .ref m27, .ref m28, .ref m29, .int v30, .ref m31, .ref m32, .ref m33, .int v34, .int v35, .int v36, .ref m37, .ref m38, .ref m39, .ref m40, .long v41])), (m16, .inl (k 0, 5, .inl f16)), (m17, .inl (k 0, 30, .inl f17))] sz) := by
  refine Met.ofW (cc := cX12_undo) (maxL := 1) (ret := (some .int)) (by decide +kernel) rfl ?_
  intro p e s m args below meth c s₁ B hml hv
  obtain ⟨rfl, hsz, hP, hK, hD0, hN⟩ := hv
  have hx := B.exec
  have hb := B.bytes
  have hr := B.returns
  have hts : ∀ w ∈ TT, w.before _ s = true := fun w h => atoms_spec (ws := ww yX12_undo cX12_undo 1 (some .int)) B.pre w (List.mem_cons_of_mem _ h)
  have hown : s.vm.findClass RX12 = some m.cls := findClass_of_methodNamed B.named
  have hlocks := B.notSynchronized
  subst hsz
  have hD := hD0.self (sz := s.heap.size)
  generalize hAe : va_A [(mo, .inr (12, [.int v0, .ref m1, .ref m2, .ref m3, .ref m4, .ref m5, .int v6, .int v7, .int v8, .int v9, .int v10, .long v11, .int v12, .int v13, .int v14, .int v15, .ref m16, .ref m17, .ref m18, .ref m19, .ref m20, .ref m21, .ref m22, .ref m23, .int v24, .ref m25, .ref m26, .ref m27, .ref m28, .ref m29, .int v30, .ref m31, .ref m32, .ref m33, .int v34, .int v35, .int v36, .ref m37, .ref m38, .ref m39, .ref m40, .long v41])), (m16, .inl (k 0, 5, .inl f16)), (m17, .inl (k 0, 30, .inl f17))] s.heap.size = A at hD ⊢
  have hA : ∀ q : Nat, s.heap.size ≤ q → A q := fun q h => by rw [← hAe]; exact Or.inr h
  have hS : va_S A s.heap s.heap [] := va_S.rf
  have hl := lv_entry ([.ref mo]) (n := 1) (Nat.le_of_ble_eq_true rfl)
  rw [lg_entry_eq]
  generalize (lg_sl ([.ref mo]) ++ List.replicate (1 - (lg_sl ([.ref mo])).length) Slot.unset).toArray = ls at hl ⊢
  have hl : lv_has ls 1 [(0, .ref mo)] := hl
  refine lv_aload_n hx hb dX12_undo_0 rfl (lv_at hl 0 rfl) ?_
  refine lv_iconst (v := 0) hx hb dX12_undo_1 (by decide) ?_
  refine va_put (D := D) (ci := 12) (v := .int 0) (ty := tyX12 0) (C := RX12) (T := TX12) (N := 42) hx hb hts iT_X12 tyX12 tyX12_ok nmX12 hown hK hP hD hS 0 rfl rfl 0 (by decide) (hts _ tw_6_53) (fun _ h9 => h9) rfl (tyX12_ok 0 (by decide)) rfl rfl (Nat.le_of_ble_eq_true rfl) dX12_undo_2 (fun H locs hP hD hS => ?_)
  have hP : va_P D vwCl [(mo, .inr (12, [.int 0, .ref m1, .ref m2, .ref m3, .ref m4, .ref m5, .int v6, .int v7, .int v8, .int v9, .int v10, .long v11, .int v12, .int v13, .int v14, .int v15, .ref m16, .ref m17, .ref m18, .ref m19, .ref m20, .ref m21, .ref m22, .ref m23, .int v24, .ref m25, .ref m26, .ref m27, .ref m28, .ref m29, .int v30, .ref m31, .ref m32, .ref m33, .int v34, .int v35, .int v36, .ref m37, .ref m38, .ref m39, .ref m40, .long v41])), (m16, .inl (k 0, 5, .inl f16)), (m17, .inl (k 0, 30, .inl f17))] H := hP
  have hD : va_D A [(mo, .inr (12, [.int 0, .ref m1, .ref m2, .ref m3, .ref m4, .ref m5, .int v6, .int v7, .int v8, .int v9, .int v10, .long v11, .int v12, .int v13, .int v14, .int v15, .ref m16, .ref m17, .ref m18, .ref m19, .ref m20, .ref m21, .ref m22, .ref m23, .int v24, .ref m25, .ref m26, .ref m27, .ref m28, .ref m29, .int v30, .ref m31, .ref m32, .ref m33, .int v34, .int v35, .int v36, .ref m37, .ref m38, .ref m39, .ref m40, .long v41])), (m16, .inl (k 0, 5, .inl f16)), (m17, .inl (k 0, 30, .inl f17))] := hD
  refine lv_aload_n hx hb dX12_undo_5 rfl (lv_at hl 0 rfl) ?_
  have hPc := hP.sub (ws' := [(mo, .inr (12, [.int 0, .ref m1, .ref m2, .ref m3, .ref m4, .ref m5, .int v6, .int v7, .int v8, .int v9, .int v10, .long v11, .int v12, .int v13, .int v14, .int v15, .ref m16, .ref m17, .ref m18, .ref m19, .ref m20, .ref m21, .ref m22, .ref m23, .int v24, .ref m25, .ref m26, .ref m27, .ref m28, .ref m29, .int v30, .ref m31, .ref m32, .ref m33, .int v34, .int v35, .int v36, .ref m37, .ref m38, .ref m39, .ref m40, .long v41])), (m16, .inl (k 0, 5, .inl f16))]) [0, 1] rfl
  have hDc := hD.sub (ws' := [(mo, .inr (12, [.int 0, .ref m1, .ref m2, .ref m3, .ref m4, .ref m5, .int v6, .int v7, .int v8, .int v9, .int v10, .long v11, .int v12, .int v13, .int v14, .int v15, .ref m16, .ref m17, .ref m18, .ref m19, .ref m20, .ref m21, .ref m22, .ref m23, .int v24, .ref m25, .ref m26, .ref m27, .ref m28, .ref m29, .int v30, .ref m31, .ref m32, .ref m33, .int v34, .int v35, .int v36, .ref m37, .ref m38, .ref m39, .ref m40, .long v41])), (m16, .inl (k 0, 5, .inl f16))]) [0, 1] (by decide) rfl
  have hFc := va_free (wc := [(mo, .inr (12, [.int 0, .ref m1, .ref m2, .ref m3, .ref m4, .ref m5, .int v6, .int v7, .int v8, .int v9, .int v10, .long v11, .int v12, .int v13, .int v14, .int v15, .ref m16, .ref m17, .ref m18, .ref m19, .ref m20, .ref m21, .ref m22, .ref m23, .int v24, .ref m25, .ref m26, .ref m27, .ref m28, .ref m29, .int v30, .ref m31, .ref m32, .ref m33, .int v34, .int v35, .int v36, .ref m37, .ref m38, .ref m39, .ref m40, .long v41])), (m16, .inl (k 0, 5, .inl f16))]) hD hS hA [0, 1] rfl
  refine va_calli (va_runV (C := RX12) (As := []) (rest := []) ⟨hx, hb, hml, hown, hts⟩ (c_X12_isTown l D k mo 0 m1 m2 m3 m4 m5 v6 v7 v8 v9 v10 v11 v12 v13 v14 v15 m16 m17 m18 m19 m20 m21 m22 m23 v24 m25 m26 m27 m28 m29 v30 m31 m32 m33 v34 v35 v36 m37 m38 m39 m40 v41 f16 H.size (show 0 ≤ v6.toInt ∧ v6.toInt ≤ 1000 from by omega) (show 0 ≤ v24.toInt ∧ v24.toInt ≤ 1023 from by omega)) (cwV 0 hts (gV tw_7_181 tw_7_183 tw_p_71 tw_1_13 tw_7_184) rfl rfl rfl hdV_X12_isTown ⟨Nat.le_of_ble_eq_true rfl, Nat.le_of_ble_eq_true rfl⟩) (cz_V hK hPc hDc hN (ci := 12) (q0 := 0) rfl rfl []) rfl rfl hl.1 rfl (lv_room (Nat.le_of_ble_eq_true rfl)) dX12_undo_6 ⟨Nat.le_of_ble_eq_true rfl, Nat.le_of_ble_eq_true rfl⟩) hS (fun q _ h => hFc q h) hFc (fun r_1 uZ tZ H1 locs ht hvm hw hB hz1 hk1 hS => ?_)
  obtain ⟨hP1, hK1, hD1⟩ := hB
  rw [ht] at hP1
  obtain ⟨hP, hD⟩ := va_join (wr := [(m17, .inl (k 0, 30, .inl f17))]) (w1 := [(mo, .inr (12, [.int 0, .ref m1, .ref m2, .ref m3, .ref m4, .ref m5, .int v6, .int v7, .int v8, .int v9, .int v10, .long v11, .int v12, .int v13, .int v14, .int v15, .ref m16, .ref m17, .ref m18, .ref m19, .ref m20, .ref m21, .ref m22, .ref m23, .int v24, .ref m25, .ref m26, .ref m27, .ref m28, .ref m29, .int v30, .ref m31, .ref m32, .ref m33, .int v34, .int v35, .int v36, .ref m37, .ref m38, .ref m39, .ref m40, .long v41])), (m16, .inl (k 0, 5, .inl f16))]) hP hD [0, 1] [2] rfl rfl (by decide) (by decide) hk1 hFc hP1 hD1
  clear hK1 hP1 hD1 hPc hDc hFc
  clear hk1 hz1 ht hvm
  have hP : va_P D vwCl [(m17, .inl (k 0, 30, .inl f17)), (mo, .inr (12, [.int 0, .ref m1, .ref m2, .ref m3, .ref m4, .ref m5, .int v6, .int v7, .int v8, .int v9, .int v10, .long v11, .int v12, .int v13, .int v14, .int v15, .ref m16, .ref m17, .ref m18, .ref m19, .ref m20, .ref m21, .ref m22, .ref m23, .int v24, .ref m25, .ref m26, .ref m27, .ref m28, .ref m29, .int v30, .ref m31, .ref m32, .ref m33, .int v34, .int v35, .int v36, .ref m37, .ref m38, .ref m39, .ref m40, .long v41])), (m16, .inl (k 0, 5, .inl f16))] H1 := hP
  have hD : va_D A [(m17, .inl (k 0, 30, .inl f17)), (mo, .inr (12, [.int 0, .ref m1, .ref m2, .ref m3, .ref m4, .ref m5, .int v6, .int v7, .int v8, .int v9, .int v10, .long v11, .int v12, .int v13, .int v14, .int v15, .ref m16, .ref m17, .ref m18, .ref m19, .ref m20, .ref m21, .ref m22, .ref m23, .int v24, .ref m25, .ref m26, .ref m27, .ref m28, .ref m29, .int v30, .ref m31, .ref m32, .ref m33, .int v34, .int v35, .int v36, .ref m37, .ref m38, .ref m39, .ref m40, .long v41])), (m16, .inl (k 0, 5, .inl f16))] := hD
  generalize H1 = H at hP hS ⊢
  have hw_2 : (0 ≤ r_1.toInt ∧ r_1.toInt ≤ 1) := hw
  have hw_3 := hw_2
  clear hw
  refine lv_if_ne (tgt := 15) hx hb dX12_undo_9 (by decide) (fun h_4 => ?_) (fun h_4 => ?_)
  · skip
    have zh_4 : ¬ r_1.toInt = 0 := z_ne h_4
    refine lv_aload_n hx hb dX12_undo_15 rfl (lv_at hl 0 rfl) ?_
    refine va_get (D := D) (ci := 12) (v := .ref m17) (C := RX12) (T := TX12) (N := 42) hx hb hts iT_X12 hown hK hP 1 rfl rfl 17 (by decide) (hts _ tw_6_70) (fun _ h9 => h9) rfl dX12_undo_16 ?_
    refine lv_iconst (v := 5) hx hb dX12_undo_19 (by decide) ?_
    refine va_iald hx hb hK hP 0 0 rfl rfl (z_in (by decide) (by decide)) dX12_undo_20 ?_
    refine lv_topi (fun x_5 ex_5 => ?_)
    have zx_5r5 : 0 ≤ x_5.toInt ∧ x_5.toInt ≤ 40 := by rw [ex_5]; exact PR.ld hp_f17_5 (by decide) (by decide) (by decide)
    refine lv_if_ne (tgt := 27) hx hb dX12_undo_21 (by decide) (fun h_6 => ?_) (fun h_6 => ?_)
    · skip
      have zh_6 : ¬ x_5.toInt = 0 := z_ne h_6
      refine lv_aload_n hx hb dX12_undo_27 rfl (lv_at hl 0 rfl) ?_
      refine va_get (D := D) (ci := 12) (v := .ref m17) (C := RX12) (T := TX12) (N := 42) hx hb hts iT_X12 hown hK hP 1 rfl rfl 17 (by decide) (hts _ tw_6_70) (fun _ h9 => h9) rfl dX12_undo_28 ?_
      refine lv_iconst (v := 5) hx hb dX12_undo_31 (by decide) ?_
      refine lv_dup2_11 hx hb dX12_undo_32 rfl rfl ?_
      refine va_iald hx hb hK hP 0 0 rfl rfl (z_in (by decide) (by decide)) dX12_undo_33 ?_
      refine lv_topi (fun x_7 ex_7 => ?_)
      obtain rfl : x_5 = x_7 := ex_5.trans ex_7.symm
      refine lv_iconst (v := 1) hx hb dX12_undo_34 (by decide) ?_
      refine lv_isub hx hb dX12_undo_35 ?_
      refine lv_topi (fun x_8 ex_8 => ?_)
      have zx_8 : x_8.toInt = x_5.toInt - 1 := by rw [ex_8]; exact z_sub rfl rfl (by omega) (by omega)
      refine va_iast hx hb hK hP hD hS 0 0 rfl rfl (z_in (by decide) (by decide)) dX12_undo_36 (fun H locs hP hD hS => ?_)
      obtain ⟨g_9, eg_9⟩ : ∃ z : Nat → Int32, upd f17 5 x_8 = z := ⟨_, rfl⟩
      have hP : va_P D vwCl [(m17, .inl (k 0, 30, .inl (upd f17 5 x_8))), (mo, .inr (12, [.int 0, .ref m1, .ref m2, .ref m3, .ref m4, .ref m5, .int v6, .int v7, .int v8, .int v9, .int v10, .long v11, .int v12, .int v13, .int v14, .int v15, .ref m16, .ref m17, .ref m18, .ref m19, .ref m20, .ref m21, .ref m22, .ref m23, .int v24, .ref m25, .ref m26, .ref m27, .ref m28, .ref m29, .int v30, .ref m31, .ref m32, .ref m33, .int v34, .int v35, .int v36, .ref m37, .ref m38, .ref m39, .ref m40, .long v41])), (m16, .inl (k 0, 5, .inl f16))] H := hP
      have hD : va_D A [(m17, .inl (k 0, 30, .inl (upd f17 5 x_8))), (mo, .inr (12, [.int 0, .ref m1, .ref m2, .ref m3, .ref m4, .ref m5, .int v6, .int v7, .int v8, .int v9, .int v10, .long v11, .int v12, .int v13, .int v14, .int v15, .ref m16, .ref m17, .ref m18, .ref m19, .ref m20, .ref m21, .ref m22, .ref m23, .int v24, .ref m25, .ref m26, .ref m27, .ref m28, .ref m29, .int v30, .ref m31, .ref m32, .ref m33, .int v34, .int v35, .int v36, .ref m37, .ref m38, .ref m39, .ref m40, .long v41])), (m16, .inl (k 0, 5, .inl f16))] := hD
      rw [eg_9] at hP hD
      have hp_10 : PR 30 6 0 0 8 g_9 := by rw [← eg_9]; exact PR.other hp_f17_0 (by decide)
      have hp_11 : PR 30 6 1 0 10 g_9 := by rw [← eg_9]; exact PR.other hp_f17_1 (by decide)
      have hp_12 : PR 30 6 2 0 4 g_9 := by rw [← eg_9]; exact PR.other hp_f17_2 (by decide)
      have hp_13 : PR 30 6 3 0 6 g_9 := by rw [← eg_9]; exact PR.other hp_f17_3 (by decide)
      have hp_14 : PR 30 6 4 0 2 g_9 := by rw [← eg_9]; exact PR.other hp_f17_4 (by decide)
      have hp_15 : PR 30 6 5 0 40 g_9 := by rw [← eg_9]; exact PR.put hp_f17_5 ⟨by omega, by omega⟩
      refine lv_aload_n hx hb dX12_undo_37 rfl (lv_at hl 0 rfl) ?_
      refine va_get (D := D) (ci := 12) (v := .ref m17) (C := RX12) (T := TX12) (N := 42) hx hb hts iT_X12 hown hK hP 1 rfl rfl 17 (by decide) (hts _ tw_6_70) (fun _ h9 => h9) rfl dX12_undo_38 ?_
      refine lv_iconst (v := 5) hx hb dX12_undo_41 (by decide) ?_
      refine va_iald hx hb hK hP 0 0 rfl rfl (z_in (by decide) (by decide)) dX12_undo_42 ?_
      refine lv_topi (fun x_16 ex_16 => ?_)
      obtain rfl : x_8 = x_16 := ((ex_16.trans (by rw [← eg_9]; exact pk_us))).symm
      have hP9 := hP.sub (ws' := [(mo, .inr (12, [.int 0, .ref m1, .ref m2, .ref m3, .ref m4, .ref m5, .int v6, .int v7, .int v8, .int v9, .int v10, .long v11, .int v12, .int v13, .int v14, .int v15, .ref m16, .ref m17, .ref m18, .ref m19, .ref m20, .ref m21, .ref m22, .ref m23, .int v24, .ref m25, .ref m26, .ref m27, .ref m28, .ref m29, .int v30, .ref m31, .ref m32, .ref m33, .int v34, .int v35, .int v36, .ref m37, .ref m38, .ref m39, .ref m40, .long v41])), (m16, .inl (k 0, 5, .inl f16)), (m17, .inl (k 0, 30, .inl g_9))]) [1, 2, 0] rfl
      have hD9 := hD.sub (ws' := [(mo, .inr (12, [.int 0, .ref m1, .ref m2, .ref m3, .ref m4, .ref m5, .int v6, .int v7, .int v8, .int v9, .int v10, .long v11, .int v12, .int v13, .int v14, .int v15, .ref m16, .ref m17, .ref m18, .ref m19, .ref m20, .ref m21, .ref m22, .ref m23, .int v24, .ref m25, .ref m26, .ref m27, .ref m28, .ref m29, .int v30, .ref m31, .ref m32, .ref m33, .int v34, .int v35, .int v36, .ref m37, .ref m38, .ref m39, .ref m40, .long v41])), (m16, .inl (k 0, 5, .inl f16)), (m17, .inl (k 0, 30, .inl g_9))]) [1, 2, 0] (by decide) rfl
      exact W.iret (v := x_8) hx hb hr (fun tZ ht hW => ⟨⟨x_8, (0, g_9), rfl, ⟨(show (-5) ≤ x_8.toInt ∧ x_8.toInt ≤ 39 from by omega), (show 0 ≤ 0 ∧ 0 ≤ 0 from by omega), hp_10, hp_11, hp_12, hp_13, hp_14, hp_15⟩, by rw [ht]; exact hP9, va_K.moved hW.alike hK, hD9⟩, hS.F ht⟩) hS.2.2 dX12_undo_43
    · skip
      have zh_6 : x_5.toInt = 0 := z_eq h_6
      refine lv_bipush (v := (-5)) hx hb dX12_undo_24 (by decide) ?_
      have hP9 := hP.sub (ws' := [(mo, .inr (12, [.int 0, .ref m1, .ref m2, .ref m3, .ref m4, .ref m5, .int v6, .int v7, .int v8, .int v9, .int v10, .long v11, .int v12, .int v13, .int v14, .int v15, .ref m16, .ref m17, .ref m18, .ref m19, .ref m20, .ref m21, .ref m22, .ref m23, .int v24, .ref m25, .ref m26, .ref m27, .ref m28, .ref m29, .int v30, .ref m31, .ref m32, .ref m33, .int v34, .int v35, .int v36, .ref m37, .ref m38, .ref m39, .ref m40, .long v41])), (m16, .inl (k 0, 5, .inl f16)), (m17, .inl (k 0, 30, .inl f17))]) [1, 2, 0] rfl
      have hD9 := hD.sub (ws' := [(mo, .inr (12, [.int 0, .ref m1, .ref m2, .ref m3, .ref m4, .ref m5, .int v6, .int v7, .int v8, .int v9, .int v10, .long v11, .int v12, .int v13, .int v14, .int v15, .ref m16, .ref m17, .ref m18, .ref m19, .ref m20, .ref m21, .ref m22, .ref m23, .int v24, .ref m25, .ref m26, .ref m27, .ref m28, .ref m29, .int v30, .ref m31, .ref m32, .ref m33, .int v34, .int v35, .int v36, .ref m37, .ref m38, .ref m39, .ref m40, .long v41])), (m16, .inl (k 0, 5, .inl f16)), (m17, .inl (k 0, 30, .inl f17))]) [1, 2, 0] (by decide) rfl
      exact W.iret (v := (-5)) hx hb hr (fun tZ ht hW => ⟨⟨(-5), (0, f17), rfl, ⟨(show (-5) ≤ (-5) ∧ (-5) ≤ 39 from by omega), (show 0 ≤ 0 ∧ 0 ≤ 0 from by omega), hp_f17_0, hp_f17_1, hp_f17_2, hp_f17_3, hp_f17_4, hp_f17_5⟩, by rw [ht]; exact hP9, va_K.moved hW.alike hK, hD9⟩, hS.F ht⟩) hS.2.2 dX12_undo_26
  · skip
    have zh_4 : r_1.toInt = 0 := z_eq h_4
    refine lv_bipush (v := (-2)) hx hb dX12_undo_12 (by decide) ?_
    have hP9 := hP.sub (ws' := [(mo, .inr (12, [.int 0, .ref m1, .ref m2, .ref m3, .ref m4, .ref m5, .int v6, .int v7, .int v8, .int v9, .int v10, .long v11, .int v12, .int v13, .int v14, .int v15, .ref m16, .ref m17, .ref m18, .ref m19, .ref m20, .ref m21, .ref m22, .ref m23, .int v24, .ref m25, .ref m26, .ref m27, .ref m28, .ref m29, .int v30, .ref m31, .ref m32, .ref m33, .int v34, .int v35, .int v36, .ref m37, .ref m38, .ref m39, .ref m40, .long v41])), (m16, .inl (k 0, 5, .inl f16)), (m17, .inl (k 0, 30, .inl f17))]) [1, 2, 0] rfl
    have hD9 := hD.sub (ws' := [(mo, .inr (12, [.int 0, .ref m1, .ref m2, .ref m3, .ref m4, .ref m5, .int v6, .int v7, .int v8, .int v9, .int v10, .long v11, .int v12, .int v13, .int v14, .int v15, .ref m16, .ref m17, .ref m18, .ref m19, .ref m20, .ref m21, .ref m22, .ref m23, .int v24, .ref m25, .ref m26, .ref m27, .ref m28, .ref m29, .int v30, .ref m31, .ref m32, .ref m33, .int v34, .int v35, .int v36, .ref m37, .ref m38, .ref m39, .ref m40, .long v41])), (m16, .inl (k 0, 5, .inl f16)), (m17, .inl (k 0, 30, .inl f17))]) [1, 2, 0] (by decide) rfl
    exact W.iret (v := (-2)) hx hb hr (fun tZ ht hW => ⟨⟨(-2), (0, f17), rfl, ⟨(show (-5) ≤ (-2) ∧ (-2) ≤ 39 from by omega), (show 0 ≤ 0 ∧ 0 ≤ 0 from by omega), hp_f17_0, hp_f17_1, hp_f17_2, hp_f17_3, hp_f17_4, hp_f17_5⟩, by rw [ht]; exact hP9, va_K.moved hW.alike hK, hD9⟩, hS.F ht⟩) hS.2.2 dX12_undo_14
set_option maxHeartbeats 4000000 in
set_option maxRecDepth 100000 in
theorem c_X12_anew (l : Launch) (D : va_G) (k : Nat → ClassId) (mo : Nat) (v0 : Int32) (m1 : Nat) (m2 : Nat) (m3 : Nat) (m4 : Nat) (m5 : Nat) (v6 : Int32) (v7 : Int32) (v8 : Int32) (v9 : Int32) (v10 : Int32) (v11 : Int64) (v12 : Int32) (v13 : Int32) (v14 : Int32) (v15 : Int32) (m16 : Nat) (m17 : Nat) (m18 : Nat) (m19 : Nat) (m20 : Nat) (m21 : Nat) (m22 : Nat) (m23 : Nat) (v24 : Int32) (m25 : Nat) (m26 : Nat) (m27 : Nat) (m28 : Nat) (m29 : Nat) (v30 : Int32) (m31 : Nat) (m32 : Nat) (m33 : Nat) (v34 : Int32) (v35 : Int32) (v36 : Int32) (m37 : Nat) (m38 : Nat) (m39 : Nat) (m40 : Nat) (v41 : Int64) (f16 : Nat → Int32) (f17 : Nat → Int32) (sz : Nat) (h_v6 : 0 ≤ v6.toInt ∧ v6.toInt ≤ 1000) (h_v24 : 0 ≤ v24.toInt ∧ v24.toInt ≤ 1023) (hp_f17_0 : PR 30 6 0 0 8 f17) (hp_f17_1 : PR 30 6 1 0 10 f17) (hp_f17_2 : PR 30 6 2 0 4 f17) (hp_f17_3 : PR 30 6 3 0 6 f17) (hp_f17_4 : PR 30 6 4 0 2 f17) (hp_f17_5 : PR 30 6 5 0 40 f17) : Met l yX12_anew (ww yX12_anew cX12_anew 2 (some .int)) ({ frames := 1, cells := 0, slots := 0, locals := 20 }) (Pre0 D k [(mo, .inr (12, [.int v0, .ref m1, .ref m2, .ref m3, .ref m4, .ref m5, .int v6, .int v7, .int v8, .int v9, .int v10, .long v11, .int v12, .int v13, .int v14, .int v15, .ref m16, .ref m17, .ref m18, .ref m19, .ref m20, .ref m21, .ref m22, .ref m23, .int v24, .ref m25, .ref m26, .ref m27, .ref m28, .ref m29, .int v30, .ref m31, .ref m32, .ref m33, .int v34, .int v35, .int v36, .ref m37, .ref m38, .ref m39, .ref m40, .long v41])), (m16, .inl (k 0, 5, .inl f16)), (m17, .inl (k 0, 30, .inl f17))] sz [.ref mo]) (va_Qi (fun (r : Int32) (u : Int32 × (Nat → Int32)) => match u with | (v0z, f17z) => ((-2) ≤ r.toInt ∧ r.toInt ≤ 40) ∧ (0 ≤ v0z.toInt ∧ v0z.toInt ≤ 0) ∧ (PR 30 6 0 0 8 f17z) ∧ (PR 30 6 1 0 10 f17z) ∧ (PR 30 6 2 0 4 f17z) ∧ (PR 30 6 3 0 6 f17z) ∧ (PR 30 6 4 0 2 f17z) ∧ (PR 30 6 5 0 40 f17z)) (fun (u : Int32 × (Nat → Int32)) tZ => match u with | (v0z, f17z) => Bw D k (va_A [(mo, .inr (12, [.int v0, .ref m1, .ref m2, .ref m3, .ref m4, .ref m5, .int v6, .int v7, .int v8, .int v9, .int v10, .long v11, .int v12, .int v13, .int v14, .int v15, .ref m16, .ref m17, .ref m18, .ref m19, .ref m20, .ref m21, .ref m22, .ref m23, .int v24, .ref m25, .ref m26, .ref m27, .ref m28, .ref m29, .int v30, .ref m31, .ref m32, .ref m33, .int v34, .int v35, .int v36, .ref m37, .ref m38, .ref m39, .ref m40, .long v41])), (m16, .inl (k 0, 5, .inl f16)), (m17, .inl (k 0, 30, .inl f17))] sz) [(mo, .inr (12, [.int v0z, .ref m1, .ref m2, .ref m3, .ref m4, .ref m5, .int v6, .int v7, .int v8, .int v9, .int v10, .long v11, .int v12, .int v13, .int v14, .int v15, .ref m16, .ref m17, .ref m18, .ref m19, .ref m20, .ref m21, .ref m22, .ref m23, .int v24, .ref m25, .ref m26, .ref m27, .ref m28, .ref m29, .int v30, .ref m31, .ref m32, .ref m33, .int v34, .int v35, .int v36, .ref m37, .ref m38, .ref m39, .ref m40, .long v41])), (m16, .inl (k 0, 5, .inl f16)), (m17, .inl (k 0, 30, .inl f17z))] tZ) (va_A [(mo, .inr (12, [.int v0, .ref m1, .ref m2, .ref m3, .ref m4, .ref m5, .int v6, .int v7, .int v8, .int v9, .int v10, .long v11, .int v12, .int v13, .int v14, .int v15, .ref m16, .ref m17, .ref m18, .ref m19, .ref m20, .ref m21, .ref m22, .ref m23, .int v24, .ref m25, .ref m26, .ref m27, .ref m28, .ref m29, .int v30, .ref m31, .ref m32, .ref m33, .int v34, .int v35, .int v36, .ref m37, .ref m38, .ref m39, .ref m40, .long v41])), (m16, .inl (k 0, 5, .inl f16)), (m17, .inl (k 0, 30, .inl f17))] sz)) 0 0 (va_A [(mo, .inr (12, [.int v0, .ref m1, .ref m2, .ref m3, .ref m4, .ref m5, .int v6, .int v7, .int v8, .int v9, .int v10, .long v11, .int v12, .int v13, .int v14, .int v15, .ref m16, .ref m17, .ref m18, .ref m19, .ref m20, .ref m21, .ref m22, .ref m23, .int v24, .ref m25, .ref m26, .ref m27, .ref m28, .ref m29, .int v30, .ref m31, .ref m32, .ref m33, .int v34, .int v35, .int v36, .ref m37, .ref m38, .ref m39, .ref m40, .long v41])), (m16, .inl (k 0, 5, .inl f16)), (m17, .inl (k 0, 30, .inl f17))] sz) := by
  refine Met.ofW (cc := cX12_anew) (maxL := 2) (ret := (some .int)) (by decide +kernel) rfl ?_
  intro p e s m args below meth c s₁ B hml hv
  obtain ⟨rfl, hsz, hP, hK, hD0, hN⟩ := hv
  have hx := B.exec
  have hb := B.bytes
  have hr := B.returns
  have hts : ∀ w ∈ TT, w.before _ s = true := fun w h => atoms_spec (ws := ww yX12_anew cX12_anew 2 (some .int)) B.pre w (List.mem_cons_of_mem _ h)
  have hown : s.vm.findClass RX12 = some m.cls := findClass_of_methodNamed B.named
  have hlocks := B.notSynchronized
  subst hsz
  have hD := hD0.self (sz := s.heap.size)
  generalize hAe : va_A [(mo, .inr (12, [.int v0, .ref m1, .ref m2, .ref m3, .ref m4, .ref m5, .int v6, .int v7, .int v8, .int v9, .int v10, .long v11, .int v12, .int v13, .int v14, .int v15, .ref m16, .ref m17, .ref m18, .ref m19, .ref m20, .ref m21, .ref m22, .ref m23, .int v24, .ref m25, .ref m26, .ref m27, .ref m28, .ref m29, .int v30, .ref m31, .ref m32, .ref m33, .int v34, .int v35, .int v36, .ref m37, .ref m38, .ref m39, .ref m40, .long v41])), (m16, .inl (k 0, 5, .inl f16)), (m17, .inl (k 0, 30, .inl f17))] s.heap.size = A at hD ⊢
  have hA : ∀ q : Nat, s.heap.size ≤ q → A q := fun q h => by rw [← hAe]; exact Or.inr h
  have hS : va_S A s.heap s.heap [] := va_S.rf
  have hl := lv_entry ([.ref mo]) (n := 2) (Nat.le_of_ble_eq_true rfl)
  rw [lg_entry_eq]
  generalize (lg_sl ([.ref mo]) ++ List.replicate (2 - (lg_sl ([.ref mo])).length) Slot.unset).toArray = ls at hl ⊢
  have hl : lv_has ls 2 [(0, .ref mo)] := hl
  refine lv_aload_n hx hb dX12_anew_0 rfl (lv_at hl 0 rfl) ?_
  refine lv_iconst (v := 0) hx hb dX12_anew_1 (by decide) ?_
  refine va_put (D := D) (ci := 12) (v := .int 0) (ty := tyX12 0) (C := RX12) (T := TX12) (N := 42) hx hb hts iT_X12 tyX12 tyX12_ok nmX12 hown hK hP hD hS 0 rfl rfl 0 (by decide) (hts _ tw_6_53) (fun _ h9 => h9) rfl (tyX12_ok 0 (by decide)) rfl rfl (Nat.le_of_ble_eq_true rfl) dX12_anew_2 (fun H locs hP hD hS => ?_)
  have hP : va_P D vwCl [(mo, .inr (12, [.int 0, .ref m1, .ref m2, .ref m3, .ref m4, .ref m5, .int v6, .int v7, .int v8, .int v9, .int v10, .long v11, .int v12, .int v13, .int v14, .int v15, .ref m16, .ref m17, .ref m18, .ref m19, .ref m20, .ref m21, .ref m22, .ref m23, .int v24, .ref m25, .ref m26, .ref m27, .ref m28, .ref m29, .int v30, .ref m31, .ref m32, .ref m33, .int v34, .int v35, .int v36, .ref m37, .ref m38, .ref m39, .ref m40, .long v41])), (m16, .inl (k 0, 5, .inl f16)), (m17, .inl (k 0, 30, .inl f17))] H := hP
  have hD : va_D A [(mo, .inr (12, [.int 0, .ref m1, .ref m2, .ref m3, .ref m4, .ref m5, .int v6, .int v7, .int v8, .int v9, .int v10, .long v11, .int v12, .int v13, .int v14, .int v15, .ref m16, .ref m17, .ref m18, .ref m19, .ref m20, .ref m21, .ref m22, .ref m23, .int v24, .ref m25, .ref m26, .ref m27, .ref m28, .ref m29, .int v30, .ref m31, .ref m32, .ref m33, .int v34, .int v35, .int v36, .ref m37, .ref m38, .ref m39, .ref m40, .long v41])), (m16, .inl (k 0, 5, .inl f16)), (m17, .inl (k 0, 30, .inl f17))] := hD
  refine lv_aload_n hx hb dX12_anew_5 rfl (lv_at hl 0 rfl) ?_
  have hPc := hP.sub (ws' := [(mo, .inr (12, [.int 0, .ref m1, .ref m2, .ref m3, .ref m4, .ref m5, .int v6, .int v7, .int v8, .int v9, .int v10, .long v11, .int v12, .int v13, .int v14, .int v15, .ref m16, .ref m17, .ref m18, .ref m19, .ref m20, .ref m21, .ref m22, .ref m23, .int v24, .ref m25, .ref m26, .ref m27, .ref m28, .ref m29, .int v30, .ref m31, .ref m32, .ref m33, .int v34, .int v35, .int v36, .ref m37, .ref m38, .ref m39, .ref m40, .long v41])), (m16, .inl (k 0, 5, .inl f16))]) [0, 1] rfl
  have hDc := hD.sub (ws' := [(mo, .inr (12, [.int 0, .ref m1, .ref m2, .ref m3, .ref m4, .ref m5, .int v6, .int v7, .int v8, .int v9, .int v10, .long v11, .int v12, .int v13, .int v14, .int v15, .ref m16, .ref m17, .ref m18, .ref m19, .ref m20, .ref m21, .ref m22, .ref m23, .int v24, .ref m25, .ref m26, .ref m27, .ref m28, .ref m29, .int v30, .ref m31, .ref m32, .ref m33, .int v34, .int v35, .int v36, .ref m37, .ref m38, .ref m39, .ref m40, .long v41])), (m16, .inl (k 0, 5, .inl f16))]) [0, 1] (by decide) rfl
  have hFc := va_free (wc := [(mo, .inr (12, [.int 0, .ref m1, .ref m2, .ref m3, .ref m4, .ref m5, .int v6, .int v7, .int v8, .int v9, .int v10, .long v11, .int v12, .int v13, .int v14, .int v15, .ref m16, .ref m17, .ref m18, .ref m19, .ref m20, .ref m21, .ref m22, .ref m23, .int v24, .ref m25, .ref m26, .ref m27, .ref m28, .ref m29, .int v30, .ref m31, .ref m32, .ref m33, .int v34, .int v35, .int v36, .ref m37, .ref m38, .ref m39, .ref m40, .long v41])), (m16, .inl (k 0, 5, .inl f16))]) hD hS hA [0, 1] rfl
  refine va_calli (va_runV (C := RX12) (As := []) (rest := []) ⟨hx, hb, hml, hown, hts⟩ (c_X12_isTown l D k mo 0 m1 m2 m3 m4 m5 v6 v7 v8 v9 v10 v11 v12 v13 v14 v15 m16 m17 m18 m19 m20 m21 m22 m23 v24 m25 m26 m27 m28 m29 v30 m31 m32 m33 v34 v35 v36 m37 m38 m39 m40 v41 f16 H.size (show 0 ≤ v6.toInt ∧ v6.toInt ≤ 1000 from by omega) (show 0 ≤ v24.toInt ∧ v24.toInt ≤ 1023 from by omega)) (cwV 0 hts (gV tw_7_181 tw_7_183 tw_p_71 tw_1_13 tw_7_184) rfl rfl rfl hdV_X12_isTown ⟨Nat.le_of_ble_eq_true rfl, Nat.le_of_ble_eq_true rfl⟩) (cz_V hK hPc hDc hN (ci := 12) (q0 := 0) rfl rfl []) rfl rfl hl.1 rfl (lv_room (Nat.le_of_ble_eq_true rfl)) dX12_anew_6 ⟨Nat.le_of_ble_eq_true rfl, Nat.le_of_ble_eq_true rfl⟩) hS (fun q _ h => hFc q h) hFc (fun r_1 uZ tZ H1 locs ht hvm hw hB hz1 hk1 hS => ?_)
  obtain ⟨hP1, hK1, hD1⟩ := hB
  rw [ht] at hP1
  obtain ⟨hP, hD⟩ := va_join (wr := [(m17, .inl (k 0, 30, .inl f17))]) (w1 := [(mo, .inr (12, [.int 0, .ref m1, .ref m2, .ref m3, .ref m4, .ref m5, .int v6, .int v7, .int v8, .int v9, .int v10, .long v11, .int v12, .int v13, .int v14, .int v15, .ref m16, .ref m17, .ref m18, .ref m19, .ref m20, .ref m21, .ref m22, .ref m23, .int v24, .ref m25, .ref m26, .ref m27, .ref m28, .ref m29, .int v30, .ref m31, .ref m32, .ref m33, .int v34, .int v35, .int v36, .ref m37, .ref m38, .ref m39, .ref m40, .long v41])), (m16, .inl (k 0, 5, .inl f16))]) hP hD [0, 1] [2] rfl rfl (by decide) (by decide) hk1 hFc hP1 hD1
  clear hK1 hP1 hD1 hPc hDc hFc
  clear hk1 hz1 ht hvm
  have hP : va_P D vwCl [(m17, .inl (k 0, 30, .inl f17)), (mo, .inr (12, [.int 0, .ref m1, .ref m2, .ref m3, .ref m4, .ref m5, .int v6, .int v7, .int v8, .int v9, .int v10, .long v11, .int v12, .int v13, .int v14, .int v15, .ref m16, .ref m17, .ref m18, .ref m19, .ref m20, .ref m21, .ref m22, .ref m23, .int v24, .ref m25, .ref m26, .ref m27, .ref m28, .ref m29, .int v30, .ref m31, .ref m32, .ref m33, .int v34, .int v35, .int v36, .ref m37, .ref m38, .ref m39, .ref m40, .long v41])), (m16, .inl (k 0, 5, .inl f16))] H1 := hP
  have hD : va_D A [(m17, .inl (k 0, 30, .inl f17)), (mo, .inr (12, [.int 0, .ref m1, .ref m2, .ref m3, .ref m4, .ref m5, .int v6, .int v7, .int v8, .int v9, .int v10, .long v11, .int v12, .int v13, .int v14, .int v15, .ref m16, .ref m17, .ref m18, .ref m19, .ref m20, .ref m21, .ref m22, .ref m23, .int v24, .ref m25, .ref m26, .ref m27, .ref m28, .ref m29, .int v30, .ref m31, .ref m32, .ref m33, .int v34, .int v35, .int v36, .ref m37, .ref m38, .ref m39, .ref m40, .long v41])), (m16, .inl (k 0, 5, .inl f16))] := hD
  generalize H1 = H at hP hS ⊢
  have hw_2 : (0 ≤ r_1.toInt ∧ r_1.toInt ≤ 1) := hw
  have hw_3 := hw_2
  clear hw
  refine lv_if_ne (tgt := 15) hx hb dX12_anew_9 (by decide) (fun h_4 => ?_) (fun h_4 => ?_)
  · skip
    have zh_4 : ¬ r_1.toInt = 0 := z_ne h_4
    refine lv_aload_n hx hb dX12_anew_15 rfl (lv_at hl 0 rfl) ?_
    refine va_get (D := D) (ci := 12) (v := .ref m17) (C := RX12) (T := TX12) (N := 42) hx hb hts iT_X12 hown hK hP 1 rfl rfl 17 (by decide) (hts _ tw_6_70) (fun _ h9 => h9) rfl dX12_anew_16 ?_
    refine lv_iconst (v := 5) hx hb dX12_anew_19 (by decide) ?_
    refine va_iald hx hb hK hP 0 0 rfl rfl (z_in (by decide) (by decide)) dX12_anew_20 ?_
    refine lv_topi (fun x_5 ex_5 => ?_)
    have zx_5r5 : 0 ≤ x_5.toInt ∧ x_5.toInt ≤ 40 := by rw [ex_5]; exact PR.ld hp_f17_5 (by decide) (by decide) (by decide)
    refine lv_istore_n (lv' := [(1, .int x_5), (0, .ref mo)]) hx hb dX12_anew_21 rfl hl (by decide) rfl (fun ls hl => ?_)
    refine lv_aload_n hx hb dX12_anew_22 rfl (lv_at hl 1 rfl) ?_
    refine va_get (D := D) (ci := 12) (v := .ref m17) (C := RX12) (T := TX12) (N := 42) hx hb hts iT_X12 hown hK hP 1 rfl rfl 17 (by decide) (hts _ tw_6_70) (fun _ h9 => h9) rfl dX12_anew_23 ?_
    refine lv_iconst (v := 5) hx hb dX12_anew_26 (by decide) ?_
    refine lv_iconst (v := 0) hx hb dX12_anew_27 (by decide) ?_
    refine va_iast hx hb hK hP hD hS 0 0 rfl rfl (z_in (by decide) (by decide)) dX12_anew_28 (fun H locs hP hD hS => ?_)
    obtain ⟨g_6, eg_6⟩ : ∃ z : Nat → Int32, upd f17 5 0 = z := ⟨_, rfl⟩
    have hP : va_P D vwCl [(m17, .inl (k 0, 30, .inl (upd f17 5 0))), (mo, .inr (12, [.int 0, .ref m1, .ref m2, .ref m3, .ref m4, .ref m5, .int v6, .int v7, .int v8, .int v9, .int v10, .long v11, .int v12, .int v13, .int v14, .int v15, .ref m16, .ref m17, .ref m18, .ref m19, .ref m20, .ref m21, .ref m22, .ref m23, .int v24, .ref m25, .ref m26, .ref m27, .ref m28, .ref m29, .int v30, .ref m31, .ref m32, .ref m33, .int v34, .int v35, .int v36, .ref m37, .ref m38, .ref m39, .ref m40, .long v41])), (m16, .inl (k 0, 5, .inl f16))] H := hP
    have hD : va_D A [(m17, .inl (k 0, 30, .inl (upd f17 5 0))), (mo, .inr (12, [.int 0, .ref m1, .ref m2, .ref m3, .ref m4, .ref m5, .int v6, .int v7, .int v8, .int v9, .int v10, .long v11, .int v12, .int v13, .int v14, .int v15, .ref m16, .ref m17, .ref m18, .ref m19, .ref m20, .ref m21, .ref m22, .ref m23, .int v24, .ref m25, .ref m26, .ref m27, .ref m28, .ref m29, .int v30, .ref m31, .ref m32, .ref m33, .int v34, .int v35, .int v36, .ref m37, .ref m38, .ref m39, .ref m40, .long v41])), (m16, .inl (k 0, 5, .inl f16))] := hD
    rw [eg_6] at hP hD
    have hp_7 : PR 30 6 0 0 8 g_6 := by rw [← eg_6]; exact PR.other hp_f17_0 (by decide)
    have hp_8 : PR 30 6 1 0 10 g_6 := by rw [← eg_6]; exact PR.other hp_f17_1 (by decide)
    have hp_9 : PR 30 6 2 0 4 g_6 := by rw [← eg_6]; exact PR.other hp_f17_2 (by decide)
    have hp_10 : PR 30 6 3 0 6 g_6 := by rw [← eg_6]; exact PR.other hp_f17_3 (by decide)
    have hp_11 : PR 30 6 4 0 2 g_6 := by rw [← eg_6]; exact PR.other hp_f17_4 (by decide)
    have hp_12 : PR 30 6 5 0 40 g_6 := by rw [← eg_6]; exact PR.put hp_f17_5 ⟨by decide, by decide⟩
    refine lv_iload_n hx hb dX12_anew_29 rfl (lv_at hl 0 rfl) ?_
    have hP9 := hP.sub (ws' := [(mo, .inr (12, [.int 0, .ref m1, .ref m2, .ref m3, .ref m4, .ref m5, .int v6, .int v7, .int v8, .int v9, .int v10, .long v11, .int v12, .int v13, .int v14, .int v15, .ref m16, .ref m17, .ref m18, .ref m19, .ref m20, .ref m21, .ref m22, .ref m23, .int v24, .ref m25, .ref m26, .ref m27, .ref m28, .ref m29, .int v30, .ref m31, .ref m32, .ref m33, .int v34, .int v35, .int v36, .ref m37, .ref m38, .ref m39, .ref m40, .long v41])), (m16, .inl (k 0, 5, .inl f16)), (m17, .inl (k 0, 30, .inl g_6))]) [1, 2, 0] rfl
    have hD9 := hD.sub (ws' := [(mo, .inr (12, [.int 0, .ref m1, .ref m2, .ref m3, .ref m4, .ref m5, .int v6, .int v7, .int v8, .int v9, .int v10, .long v11, .int v12, .int v13, .int v14, .int v15, .ref m16, .ref m17, .ref m18, .ref m19, .ref m20, .ref m21, .ref m22, .ref m23, .int v24, .ref m25, .ref m26, .ref m27, .ref m28, .ref m29, .int v30, .ref m31, .ref m32, .ref m33, .int v34, .int v35, .int v36, .ref m37, .ref m38, .ref m39, .ref m40, .long v41])), (m16, .inl (k 0, 5, .inl f16)), (m17, .inl (k 0, 30, .inl g_6))]) [1, 2, 0] (by decide) rfl
    exact W.iret (v := x_5) hx hb hr (fun tZ ht hW => ⟨⟨x_5, (0, g_6), rfl, ⟨(show (-2) ≤ x_5.toInt ∧ x_5.toInt ≤ 40 from by omega), (show 0 ≤ 0 ∧ 0 ≤ 0 from by omega), hp_7, hp_8, hp_9, hp_10, hp_11, hp_12⟩, by rw [ht]; exact hP9, va_K.moved hW.alike hK, hD9⟩, hS.F ht⟩) hS.2.2 dX12_anew_30
  · skip
    have zh_4 : r_1.toInt = 0 := z_eq h_4
    refine lv_bipush (v := (-2)) hx hb dX12_anew_12 (by decide) ?_
    have hP9 := hP.sub (ws' := [(mo, .inr (12, [.int 0, .ref m1, .ref m2, .ref m3, .ref m4, .ref m5, .int v6, .int v7, .int v8, .int v9, .int v10, .long v11, .int v12, .int v13, .int v14, .int v15, .ref m16, .ref m17, .ref m18, .ref m19, .ref m20, .ref m21, .ref m22, .ref m23, .int v24, .ref m25, .ref m26, .ref m27, .ref m28, .ref m29, .int v30, .ref m31, .ref m32, .ref m33, .int v34, .int v35, .int v36, .ref m37, .ref m38, .ref m39, .ref m40, .long v41])), (m16, .inl (k 0, 5, .inl f16)), (m17, .inl (k 0, 30, .inl f17))]) [1, 2, 0] rfl
    have hD9 := hD.sub (ws' := [(mo, .inr (12, [.int 0, .ref m1, .ref m2, .ref m3, .ref m4, .ref m5, .int v6, .int v7, .int v8, .int v9, .int v10, .long v11, .int v12, .int v13, .int v14, .int v15, .ref m16, .ref m17, .ref m18, .ref m19, .ref m20, .ref m21, .ref m22, .ref m23, .int v24, .ref m25, .ref m26, .ref m27, .ref m28, .ref m29, .int v30, .ref m31, .ref m32, .ref m33, .int v34, .int v35, .int v36, .ref m37, .ref m38, .ref m39, .ref m40, .long v41])), (m16, .inl (k 0, 5, .inl f16)), (m17, .inl (k 0, 30, .inl f17))]) [1, 2, 0] (by decide) rfl
    exact W.iret (v := (-2)) hx hb hr (fun tZ ht hW => ⟨⟨(-2), (0, f17), rfl, ⟨(show (-2) ≤ (-2) ∧ (-2) ≤ 40 from by omega), (show 0 ≤ 0 ∧ 0 ≤ 0 from by omega), hp_f17_0, hp_f17_1, hp_f17_2, hp_f17_3, hp_f17_4, hp_f17_5⟩, by rw [ht]; exact hP9, va_K.moved hW.alike hK, hD9⟩, hS.F ht⟩) hS.2.2 dX12_anew_14
set_option maxHeartbeats 4000000 in
set_option maxRecDepth 100000 in
theorem c_X12_drawnMud (l : Launch) (D : va_G) (k : Nat → ClassId) (mo : Nat) (p0 : Int64) (v0 : Int32) (m1 : Nat) (m2 : Nat) (m3 : Nat) (m4 : Nat) (m5 : Nat) (v6 : Int32) (v7 : Int32) (v8 : Int32) (v9 : Int32) (v10 : Int32) (v11 : Int64) (v12 : Int32) (v13 : Int32) (v14 : Int32) (v15 : Int32) (m16 : Nat) (m17 : Nat) (m18 : Nat) (m19 : Nat) (m20 : Nat) (m21 : Nat) (m22 : Nat) (m23 : Nat) (v24 : Int32) (m25 : Nat) (m26 : Nat) (m27 : Nat) (m28 : Nat) (m29 : Nat) (v30 : Int32) (m31 : Nat) (m32 : Nat) (m33 : Nat) (v34 : Int32) (v35 : Int32) (v36 : Int32) (m37 : Nat) (m38 : Nat) (m39 : Nat) (m40 : Nat) (v41 : Int64) (f17 : Nat → Int32) (f18 : Nat → Int32) (sz : Nat) (h_v6 : 0 ≤ v6.toInt ∧ v6.toInt ≤ 1000) (h_v24 : 0 ≤ v24.toInt ∧ v24.toInt ≤ 1023) (hp_f17_0 : PR 30 6 0 0 8 f17) (hp_f17_1 : PR 30 6 1 0 10 f17) (hp_f17_2 : PR 30 6 2 0 4 f17) (hp_f17_3 : PR 30 6 3 0 6 f17) (hp_f17_4 : PR 30 6 4 0 2 f17) (hp_f17_5 : PR 30 6 5 0 40 f17) (hp_f18_0 : PR 250 5 0 0 7 f18) (hp_f18_1 : PR 250 5 1 0 7 f18) (hp_f18_2 : PR 250 5 2 1 60 f18) (hp_f18_3 : PR 250 5 3 0 10 f18) : Met l yX12_drawnMud (ww yX12_drawnMud cX12_drawnMud 7 (some .int)) ({ frames := 0, cells := 0, slots := 0, locals := 0 }) (Pre0 D k [(mo, .inr (12, [.int v0, .ref m1, .ref m2, .ref m3, .ref m4, .ref m5, .int v6, .int v7, .int v8, .int v9, .int v10, .long v11, .int v12, .int v13, .int v14, .int v15, .ref m16, .ref m17, .ref m18, .ref m19, .ref m20, .ref m21, .ref m22, .ref m23, .int v24, .ref m25, .ref m26, .ref m27, .ref m28, .ref m29, .int v30, .ref m31, .ref m32, .ref m33, .int v34, .int v35, .int v36, .ref m37, .ref m38, .ref m39, .ref m40, .long v41])), (m17, .inl (k 0, 30, .inl f17)), (m18, .inl (k 0, 250, .inl f18))] sz [.ref mo, .long p0]) (va_Qi (fun (r : Int32) (_ : Unit) => True) (fun (_ : Unit) tZ => Bw D k (va_A [(mo, .inr (12, [.int v0, .ref m1, .ref m2, .ref m3, .ref m4, .ref m5, .int v6, .int v7, .int v8, .int v9, .int v10, .long v11, .int v12, .int v13, .int v14, .int v15, .ref m16, .ref m17, .ref m18, .ref m19, .ref m20, .ref m21, .ref m22, .ref m23, .int v24, .ref m25, .ref m26, .ref m27, .ref m28, .ref m29, .int v30, .ref m31, .ref m32, .ref m33, .int v34, .int v35, .int v36, .ref m37, .ref m38, .ref m39, .ref m40, .long v41])), (m17, .inl (k 0, 30, .inl f17)), (m18, .inl (k 0, 250, .inl f18))] sz) [(mo, .inr (12, [.int v0, .ref m1, .ref m2, .ref m3, .ref m4, .ref m5, .int v6, .int v7, .int v8, .int v9, .int v10, .long v11, .int v12, .int v13, .int v14, .int v15, .ref m16, .ref m17, .ref m18, .ref m19, .ref m20, .ref m21, .ref m22, .ref m23, .int v24, .ref m25, .ref m26, .ref m27, .ref m28, .ref m29, .int v30, .ref m31, .ref m32, .ref m33, .int v34, .int v35, .int v36, .ref m37, .ref m38, .ref m39, .ref m40, .long v41])), (m17, .inl (k 0, 30, .inl f17)), (m18, .inl (k 0, 250, .inl f18))] tZ) (va_A [(mo, .inr (12, [.int v0, .ref m1, .ref m2, .ref m3, .ref m4, .ref m5, .int v6, .int v7, .int v8, .int v9, .int v10, .long v11, .int v12, .int v13, .int v14, .int v15, .ref m16, .ref m17, .ref m18, .ref m19, .ref m20, .ref m21, .ref m22, .ref m23, .int v24, .ref m25, .ref m26, .ref m27, .ref m28, .ref m29, .int v30, .ref m31, .ref m32, .ref m33, .int v34, .int v35, .int v36, .ref m37, .ref m38, .ref m39, .ref m40, .long v41])), (m17, .inl (k 0, 30, .inl f17)), (m18, .inl (k 0, 250, .inl f18))] sz)) 0 0 (va_A [(mo, .inr (12, [.int v0, .ref m1, .ref m2, .ref m3, .ref m4, .ref m5, .int v6, .int v7, .int v8, .int v9, .int v10, .long v11, .int v12, .int v13, .int v14, .int v15, .ref m16, .ref m17, .ref m18, .ref m19, .ref m20, .ref m21, .ref m22, .ref m23, .int v24, .ref m25, .ref m26, .ref m27, .ref m28, .ref m29, .int v30, .ref m31, .ref m32, .ref m33, .int v34, .int v35, .int v36, .ref m37, .ref m38, .ref m39, .ref m40, .long v41])), (m17, .inl (k 0, 30, .inl f17)), (m18, .inl (k 0, 250, .inl f18))] sz) := by
  refine Met.ofW (cc := cX12_drawnMud) (maxL := 7) (ret := (some .int)) (by decide +kernel) rfl ?_
  intro p e s m args below meth c s₁ B hml hv
  obtain ⟨rfl, hsz, hP, hK, hD0, hN⟩ := hv
  have hx := B.exec
  have hb := B.bytes
  have hr := B.returns
  have hts : ∀ w ∈ TT, w.before _ s = true := fun w h => atoms_spec (ws := ww yX12_drawnMud cX12_drawnMud 7 (some .int)) B.pre w (List.mem_cons_of_mem _ h)
  have hown : s.vm.findClass RX12 = some m.cls := findClass_of_methodNamed B.named
  have hlocks := B.notSynchronized
  subst hsz
  have hD := hD0.self (sz := s.heap.size)
  generalize hAe : va_A [(mo, .inr (12, [.int v0, .ref m1, .ref m2, .ref m3, .ref m4, .ref m5, .int v6, .int v7, .int v8, .int v9, .int v10, .long v11, .int v12, .int v13, .int v14, .int v15, .ref m16, .ref m17, .ref m18, .ref m19, .ref m20, .ref m21, .ref m22, .ref m23, .int v24, .ref m25, .ref m26, .ref m27, .ref m28, .ref m29, .int v30, .ref m31, .ref m32, .ref m33, .int v34, .int v35, .int v36, .ref m37, .ref m38, .ref m39, .ref m40, .long v41])), (m17, .inl (k 0, 30, .inl f17)), (m18, .inl (k 0, 250, .inl f18))] s.heap.size = A at hD ⊢
  have hA : ∀ q : Nat, s.heap.size ≤ q → A q := fun q h => by rw [← hAe]; exact Or.inr h
  have hS : va_S A s.heap s.heap [] := va_S.rf
  have hl := lv_entry ([.ref mo, .long p0]) (n := 7) (Nat.le_of_ble_eq_true rfl)
  rw [lg_entry_eq]
  generalize (lg_sl ([.ref mo, .long p0]) ++ List.replicate (7 - (lg_sl ([.ref mo, .long p0])).length) Slot.unset).toArray = ls at hl ⊢
  have hl : lv_has ls 7 [(0, .ref mo), (1, .long p0)] := hl
  refine lv_lload_n hx hb dX12_drawnMud_0 rfl (lv_at hl 1 rfl) ?_
  refine lv_lstore_n (lv' := [(3, .long p0), (0, .ref mo), (1, .long p0)]) hx hb dX12_drawnMud_1 rfl hl (by decide) rfl (fun ls hl => ?_)
  refine lv_iconst (v := 0) hx hb dX12_drawnMud_2 (by decide) ?_
  refine lv_istore (lv' := [(5, .int 0), (3, .long p0), (0, .ref mo), (1, .long p0)]) hx hb dX12_drawnMud_3 hl (by decide) rfl (fun ls hl => ?_)
  refine lv_iconst (v := 0) hx hb dX12_drawnMud_5 (by decide) ?_
  refine lv_istore (lv' := [(6, .int 0), (5, .int 0), (3, .long p0), (0, .ref mo), (1, .long p0)]) hx hb dX12_drawnMud_6 hl (by decide) rfl (fun ls hl => ?_)
  refine loop_r (Wg := fun H locs ls => W p l e _ s m _ below meth c H locs _ _ _ (F0 m 8 ls [])) (fun n9 H locs ls => ∃ (L8l3 : Int64) (L8l5 : Int32) (L8l6 : Int32), n9 = (10 - L8l6.toInt).toNat ∧ (0 ≤ L8l6.toInt ∧ L8l6.toInt ≤ 10) ∧ va_P D vwCl [(mo, .inr (12, [.int v0, .ref m1, .ref m2, .ref m3, .ref m4, .ref m5, .int v6, .int v7, .int v8, .int v9, .int v10, .long v11, .int v12, .int v13, .int v14, .int v15, .ref m16, .ref m17, .ref m18, .ref m19, .ref m20, .ref m21, .ref m22, .ref m23, .int v24, .ref m25, .ref m26, .ref m27, .ref m28, .ref m29, .int v30, .ref m31, .ref m32, .ref m33, .int v34, .int v35, .int v36, .ref m37, .ref m38, .ref m39, .ref m40, .long v41])), (m17, .inl (k 0, 30, .inl f17)), (m18, .inl (k 0, 250, .inl f18))] H ∧ va_D A [(mo, .inr (12, [.int v0, .ref m1, .ref m2, .ref m3, .ref m4, .ref m5, .int v6, .int v7, .int v8, .int v9, .int v10, .long v11, .int v12, .int v13, .int v14, .int v15, .ref m16, .ref m17, .ref m18, .ref m19, .ref m20, .ref m21, .ref m22, .ref m23, .int v24, .ref m25, .ref m26, .ref m27, .ref m28, .ref m29, .int v30, .ref m31, .ref m32, .ref m33, .int v34, .int v35, .int v36, .ref m37, .ref m38, .ref m39, .ref m40, .long v41])), (m17, .inl (k 0, 30, .inl f17)), (m18, .inl (k 0, 250, .inl f18))] ∧ va_S A s.heap H locs ∧ lv_has ls 7 [(0, .ref mo), (1, .long p0), (3, .long L8l3), (5, .int L8l5), (6, .int L8l6)]) (fun n9 H locs ls hI ih_1 => ?_) _ _ _ _ ⟨p0, 0, 0, rfl, (show 0 ≤ 0 ∧ 0 ≤ 10 from by omega), hP.sub (ws' := [(mo, .inr (12, [.int v0, .ref m1, .ref m2, .ref m3, .ref m4, .ref m5, .int v6, .int v7, .int v8, .int v9, .int v10, .long v11, .int v12, .int v13, .int v14, .int v15, .ref m16, .ref m17, .ref m18, .ref m19, .ref m20, .ref m21, .ref m22, .ref m23, .int v24, .ref m25, .ref m26, .ref m27, .ref m28, .ref m29, .int v30, .ref m31, .ref m32, .ref m33, .int v34, .int v35, .int v36, .ref m37, .ref m38, .ref m39, .ref m40, .long v41])), (m17, .inl (k 0, 30, .inl f17)), (m18, .inl (k 0, 250, .inl f18))]) [0, 1, 2] rfl, hD.sub (ws' := [(mo, .inr (12, [.int v0, .ref m1, .ref m2, .ref m3, .ref m4, .ref m5, .int v6, .int v7, .int v8, .int v9, .int v10, .long v11, .int v12, .int v13, .int v14, .int v15, .ref m16, .ref m17, .ref m18, .ref m19, .ref m20, .ref m21, .ref m22, .ref m23, .int v24, .ref m25, .ref m26, .ref m27, .ref m28, .ref m29, .int v30, .ref m31, .ref m32, .ref m33, .int v34, .int v35, .int v36, .ref m37, .ref m38, .ref m39, .ref m40, .long v41])), (m17, .inl (k 0, 30, .inl f17)), (m18, .inl (k 0, 250, .inl f18))]) [0, 1, 2] (by decide) rfl, hS, lv_sub hl [3, 4, 2, 1, 0] rfl⟩
  clear hP hD hS hl
  obtain ⟨L8l3, L8l5, L8l6, en_2, zL8l6, hP, hD, hS, hl⟩ := hI
  refine lv_iload hx hb dX12_drawnMud_8 (lv_at hl 4 rfl) ?_
  refine lv_aload_n hx hb dX12_drawnMud_10 rfl (lv_at hl 0 rfl) ?_
  refine va_get (D := D) (ci := 12) (v := .ref m17) (C := RX12) (T := TX12) (N := 42) hx hb hts iT_X12 hown hK hP 0 rfl rfl 17 (by decide) (hts _ tw_6_70) (fun _ h9 => h9) rfl dX12_drawnMud_11 ?_
  refine lv_iconst (v := 1) hx hb dX12_drawnMud_14 (by decide) ?_
  refine va_iald hx hb hK hP 1 0 rfl rfl (z_in (by decide) (by decide)) dX12_drawnMud_15 ?_
  refine lv_topi (fun x_3 ex_3 => ?_)
  have zx_3r1 : 0 ≤ x_3.toInt ∧ x_3.toInt ≤ 10 := by rw [ex_3]; exact PR.ld hp_f17_1 (by decide) (by decide) (by decide)
  refine lv_icmp_ge (tgt := 77) hx hb dX12_drawnMud_16 (by decide) (fun h_4 => ?_) (fun h_4 => ?_)
  · skip
    have zh_4 : x_3.toInt ≤ L8l6.toInt := z_le h_4
    refine lv_iload hx hb dX12_drawnMud_77 (lv_at hl 3 rfl) ?_
    have hP9 := hP.sub (ws' := [(mo, .inr (12, [.int v0, .ref m1, .ref m2, .ref m3, .ref m4, .ref m5, .int v6, .int v7, .int v8, .int v9, .int v10, .long v11, .int v12, .int v13, .int v14, .int v15, .ref m16, .ref m17, .ref m18, .ref m19, .ref m20, .ref m21, .ref m22, .ref m23, .int v24, .ref m25, .ref m26, .ref m27, .ref m28, .ref m29, .int v30, .ref m31, .ref m32, .ref m33, .int v34, .int v35, .int v36, .ref m37, .ref m38, .ref m39, .ref m40, .long v41])), (m17, .inl (k 0, 30, .inl f17)), (m18, .inl (k 0, 250, .inl f18))]) [0, 1, 2] rfl
    have hD9 := hD.sub (ws' := [(mo, .inr (12, [.int v0, .ref m1, .ref m2, .ref m3, .ref m4, .ref m5, .int v6, .int v7, .int v8, .int v9, .int v10, .long v11, .int v12, .int v13, .int v14, .int v15, .ref m16, .ref m17, .ref m18, .ref m19, .ref m20, .ref m21, .ref m22, .ref m23, .int v24, .ref m25, .ref m26, .ref m27, .ref m28, .ref m29, .int v30, .ref m31, .ref m32, .ref m33, .int v34, .int v35, .int v36, .ref m37, .ref m38, .ref m39, .ref m40, .long v41])), (m17, .inl (k 0, 30, .inl f17)), (m18, .inl (k 0, 250, .inl f18))]) [0, 1, 2] (by decide) rfl
    exact W.iret (v := L8l5) hx hb hr (fun tZ ht hW => ⟨⟨L8l5, (), rfl, trivial, by rw [ht]; exact hP9, va_K.moved hW.alike hK, hD9⟩, hS.F ht⟩) hS.2.2 dX12_drawnMud_79
  · skip
    have zh_4 : L8l6.toInt < x_3.toInt := z_nle h_4
    refine lv_ldc2 (v := 1103515245) hx hb hown (hts _ tw_8_237) dX12_drawnMud_19 ?_
    refine lv_lload_n hx hb dX12_drawnMud_22 rfl (lv_at hl 2 rfl) ?_
    refine lv_lmul hx hb dX12_drawnMud_23 ?_
    refine lv_topl (fun x_5 ex_5 => ?_)
    refine lv_ldc2 (v := 12345) hx hb hown (hts _ tw_8_238) dX12_drawnMud_24 ?_
    refine lv_ladd hx hb dX12_drawnMud_27 ?_
    refine lv_topl (fun x_6 ex_6 => ?_)
    refine lv_ldc2 (v := 2147483648) hx hb hown (hts _ tw_8_239) dX12_drawnMud_28 ?_
    refine lv_lrem hx hb dX12_drawnMud_31 (by decide) ?_
    refine lv_topl (fun x_7 ex_7 => ?_)
    refine lv_lstore_n (lv' := [(3, .long x_7), (0, .ref mo), (1, .long p0), (5, .int L8l5), (6, .int L8l6)]) hx hb dX12_drawnMud_32 rfl hl (by decide) rfl (fun ls hl => ?_)
    refine lv_iload hx hb dX12_drawnMud_33 (lv_at hl 3 rfl) ?_
    refine lv_lload_n hx hb dX12_drawnMud_35 rfl (lv_at hl 0 rfl) ?_
    refine lv_ldc2 (v := 65536) hx hb hown (hts _ tw_9_0) dX12_drawnMud_36 ?_
    refine lv_ldiv hx hb dX12_drawnMud_39 (by decide) ?_
    refine lv_topl (fun x_8 ex_8 => ?_)
    refine lv_ldc2 (v := 10) hx hb hown (hts _ tw_8_191) dX12_drawnMud_40 ?_
    refine lv_lrem hx hb dX12_drawnMud_43 (by decide) ?_
    refine lv_topl (fun x_9 ex_9 => ?_)
    refine lv_aload_n hx hb dX12_drawnMud_44 rfl (lv_at hl 1 rfl) ?_
    refine va_get (D := D) (ci := 12) (v := .ref m18) (C := RX12) (T := TX12) (N := 42) hx hb hts iT_X12 hown hK hP 0 rfl rfl 18 (by decide) (hts _ tw_6_71) (fun _ h9 => h9) rfl dX12_drawnMud_45 ?_
    refine lv_iconst (v := 5) hx hb dX12_drawnMud_48 (by decide) ?_
    refine lv_iload hx hb dX12_drawnMud_49 (lv_at hl 4 rfl) ?_
    refine lv_imul hx hb dX12_drawnMud_51 ?_
    refine lv_topi (fun x_10 ex_10 => ?_)
    have zx_10 : x_10.toInt = 5 * L8l6.toInt := by rw [ex_10]; exact z_mul rfl rfl (by omega) (by omega)
    refine lv_iconst (v := 3) hx hb dX12_drawnMud_52 (by decide) ?_
    refine lv_iadd hx hb dX12_drawnMud_53 ?_
    refine lv_topi (fun x_11 ex_11 => ?_)
    have zx_11 : x_11.toInt = x_10.toInt + 3 := by rw [ex_11]; exact z_add rfl rfl (by omega) (by omega)
    refine va_iald hx hb hK hP 2 0 rfl rfl (z_in (by omega) (by omega)) dX12_drawnMud_54 ?_
    refine lv_topi (fun x_12 ex_12 => ?_)
    have zx_12r3 : 0 ≤ x_12.toInt ∧ x_12.toInt ≤ 10 := by rw [ex_12]; exact PR.ld hp_f18_3 (by omega) (by omega) (by omega)
    refine lv_i2l (v := x_12.toInt64) hx hb dX12_drawnMud_55 rfl ?_
    refine W.lcmp hx hb dX12_drawnMud_56 ?_
    refine lv_if_ge (tgt := 67) hx hb dX12_drawnMud_57 (by decide) (fun h_13 => ?_) (fun h_13 => ?_)
    · skip
      have zh_13 : x_12.toInt ≤ x_9.toInt := zL_ge h_13 rfl (Int32.toInt_toInt64 _)
      refine lv_iconst (v := 0) hx hb dX12_drawnMud_67 (by decide) ?_
      refine lv_ior hx hb dX12_drawnMud_68 ?_
      refine lv_topi (fun x_14 ex_14 => ?_)
      have zrL8l5 := z_rng L8l5
      refine lv_istore (lv' := [(5, .int x_14), (3, .long x_7), (0, .ref mo), (1, .long p0), (6, .int L8l6)]) hx hb dX12_drawnMud_69 hl (by decide) rfl (fun ls hl => ?_)
      obtain ⟨x_15, ex_15⟩ : ∃ y : Int32, y = L8l6 + 1 := ⟨_, rfl⟩
      have zx_15 : x_15.toInt = L8l6.toInt + 1 := by rw [ex_15]; exact z_add rfl rfl (by omega) (by omega)
      refine lv_iinc (v := x_15) (lv' := [(6, .int x_15), (5, .int x_14), (3, .long x_7), (0, .ref mo), (1, .long p0)]) hx hb dX12_drawnMud_71 hl (k := 4) rfl (by rw [ex_15]; rfl) (by decide) rfl (fun ls hl => ?_)
      refine lv_goto (tgt := 8) hx hb dX12_drawnMud_74 (by decide) ?_
      exact ih_1 _ _ _ _ (by omega) ⟨x_7, x_14, x_15, rfl, (show 0 ≤ x_15.toInt ∧ x_15.toInt ≤ 10 from by omega), hP.sub (ws' := [(mo, .inr (12, [.int v0, .ref m1, .ref m2, .ref m3, .ref m4, .ref m5, .int v6, .int v7, .int v8, .int v9, .int v10, .long v11, .int v12, .int v13, .int v14, .int v15, .ref m16, .ref m17, .ref m18, .ref m19, .ref m20, .ref m21, .ref m22, .ref m23, .int v24, .ref m25, .ref m26, .ref m27, .ref m28, .ref m29, .int v30, .ref m31, .ref m32, .ref m33, .int v34, .int v35, .int v36, .ref m37, .ref m38, .ref m39, .ref m40, .long v41])), (m17, .inl (k 0, 30, .inl f17)), (m18, .inl (k 0, 250, .inl f18))]) [0, 1, 2] rfl, hD.sub (ws' := [(mo, .inr (12, [.int v0, .ref m1, .ref m2, .ref m3, .ref m4, .ref m5, .int v6, .int v7, .int v8, .int v9, .int v10, .long v11, .int v12, .int v13, .int v14, .int v15, .ref m16, .ref m17, .ref m18, .ref m19, .ref m20, .ref m21, .ref m22, .ref m23, .int v24, .ref m25, .ref m26, .ref m27, .ref m28, .ref m29, .int v30, .ref m31, .ref m32, .ref m33, .int v34, .int v35, .int v36, .ref m37, .ref m38, .ref m39, .ref m40, .long v41])), (m17, .inl (k 0, 30, .inl f17)), (m18, .inl (k 0, 250, .inl f18))]) [0, 1, 2] (by decide) rfl, hS, lv_sub hl [3, 4, 2, 1, 0] rfl⟩
    · skip
      have zh_13 : x_9.toInt < x_12.toInt := zL_nge h_13 rfl (Int32.toInt_toInt64 _)
      refine lv_iconst (v := 1) hx hb dX12_drawnMud_60 (by decide) ?_
      refine lv_iload hx hb dX12_drawnMud_61 (lv_at hl 4 rfl) ?_
      refine lv_ishl hx hb dX12_drawnMud_63 ?_
      refine lv_topi (fun x_16 ex_16 => ?_)
      have zx_16 : 1 ≤ x_16.toInt ∧ x_16.toInt ≤ 512 := by rw [ex_16]; exact z_shl1 9 512 rfl (by decide) (by omega) (by omega)
      refine lv_goto (tgt := 68) hx hb dX12_drawnMud_64 (by decide) ?_
      refine lv_ior hx hb dX12_drawnMud_68 ?_
      refine lv_topi (fun x_17 ex_17 => ?_)
      have zrL8l5 := z_rng L8l5
      refine lv_istore (lv' := [(5, .int x_17), (3, .long x_7), (0, .ref mo), (1, .long p0), (6, .int L8l6)]) hx hb dX12_drawnMud_69 hl (by decide) rfl (fun ls hl => ?_)
      obtain ⟨x_18, ex_18⟩ : ∃ y : Int32, y = L8l6 + 1 := ⟨_, rfl⟩
      have zx_18 : x_18.toInt = L8l6.toInt + 1 := by rw [ex_18]; exact z_add rfl rfl (by omega) (by omega)
      refine lv_iinc (v := x_18) (lv' := [(6, .int x_18), (5, .int x_17), (3, .long x_7), (0, .ref mo), (1, .long p0)]) hx hb dX12_drawnMud_71 hl (k := 4) rfl (by rw [ex_18]; rfl) (by decide) rfl (fun ls hl => ?_)
      refine lv_goto (tgt := 8) hx hb dX12_drawnMud_74 (by decide) ?_
      exact ih_1 _ _ _ _ (by omega) ⟨x_7, x_17, x_18, rfl, (show 0 ≤ x_18.toInt ∧ x_18.toInt ≤ 10 from by omega), hP.sub (ws' := [(mo, .inr (12, [.int v0, .ref m1, .ref m2, .ref m3, .ref m4, .ref m5, .int v6, .int v7, .int v8, .int v9, .int v10, .long v11, .int v12, .int v13, .int v14, .int v15, .ref m16, .ref m17, .ref m18, .ref m19, .ref m20, .ref m21, .ref m22, .ref m23, .int v24, .ref m25, .ref m26, .ref m27, .ref m28, .ref m29, .int v30, .ref m31, .ref m32, .ref m33, .int v34, .int v35, .int v36, .ref m37, .ref m38, .ref m39, .ref m40, .long v41])), (m17, .inl (k 0, 30, .inl f17)), (m18, .inl (k 0, 250, .inl f18))]) [0, 1, 2] rfl, hD.sub (ws' := [(mo, .inr (12, [.int v0, .ref m1, .ref m2, .ref m3, .ref m4, .ref m5, .int v6, .int v7, .int v8, .int v9, .int v10, .long v11, .int v12, .int v13, .int v14, .int v15, .ref m16, .ref m17, .ref m18, .ref m19, .ref m20, .ref m21, .ref m22, .ref m23, .int v24, .ref m25, .ref m26, .ref m27, .ref m28, .ref m29, .int v30, .ref m31, .ref m32, .ref m33, .int v34, .int v35, .int v36, .ref m37, .ref m38, .ref m39, .ref m40, .long v41])), (m17, .inl (k 0, 30, .inl f17)), (m18, .inl (k 0, 250, .inl f18))]) [0, 1, 2] (by decide) rfl, hS, lv_sub hl [3, 4, 2, 1, 0] rfl⟩
set_option maxHeartbeats 4000000 in
set_option maxRecDepth 100000 in
theorem c_X12_isSeed (l : Launch) (D : va_G) (k : Nat → ClassId) (mo : Nat) (p0 : Int32) (v0 : Int32) (m1 : Nat) (m2 : Nat) (m3 : Nat) (m4 : Nat) (m5 : Nat) (v6 : Int32) (v7 : Int32) (v8 : Int32) (v9 : Int32) (v10 : Int32) (v11 : Int64) (v12 : Int32) (v13 : Int32) (v14 : Int32) (v15 : Int32) (m16 : Nat) (m17 : Nat) (m18 : Nat) (m19 : Nat) (m20 : Nat) (m21 : Nat) (m22 : Nat) (m23 : Nat) (v24 : Int32) (m25 : Nat) (m26 : Nat) (m27 : Nat) (m28 : Nat) (m29 : Nat) (v30 : Int32) (m31 : Nat) (m32 : Nat) (m33 : Nat) (v34 : Int32) (v35 : Int32) (v36 : Int32) (m37 : Nat) (m38 : Nat) (m39 : Nat) (m40 : Nat) (v41 : Int64) (f16 : Nat → Int32) (sz : Nat) (h_v6 : 0 ≤ v6.toInt ∧ v6.toInt ≤ 1000) (h_v24 : 0 ≤ v24.toInt ∧ v24.toInt ≤ 1023) : Met l yX12_isSeed (ww yX12_isSeed cX12_isSeed 2 (some .boolean)) ({ frames := 1, cells := 0, slots := 0, locals := 25 }) (Pre0 D k [(mo, .inr (12, [.int v0, .ref m1, .ref m2, .ref m3, .ref m4, .ref m5, .int v6, .int v7, .int v8, .int v9, .int v10, .long v11, .int v12, .int v13, .int v14, .int v15, .ref m16, .ref m17, .ref m18, .ref m19, .ref m20, .ref m21, .ref m22, .ref m23, .int v24, .ref m25, .ref m26, .ref m27, .ref m28, .ref m29, .int v30, .ref m31, .ref m32, .ref m33, .int v34, .int v35, .int v36, .ref m37, .ref m38, .ref m39, .ref m40, .long v41])), (m16, .inl (k 0, 5, .inl f16))] sz [.ref mo, .int p0]) (va_Qi (fun (r : Int32) (_ : Unit) => (0 ≤ r.toInt ∧ r.toInt ≤ 1) ∧ ((r.toInt = 1 ∧ 0 ≤ p0.toInt ∧ p0.toInt ≤ 2000000000) ∨ r.toInt = 0)) (fun (_ : Unit) tZ => Bw D k (va_A [(mo, .inr (12, [.int v0, .ref m1, .ref m2, .ref m3, .ref m4, .ref m5, .int v6, .int v7, .int v8, .int v9, .int v10, .long v11, .int v12, .int v13, .int v14, .int v15, .ref m16, .ref m17, .ref m18, .ref m19, .ref m20, .ref m21, .ref m22, .ref m23, .int v24, .ref m25, .ref m26, .ref m27, .ref m28, .ref m29, .int v30, .ref m31, .ref m32, .ref m33, .int v34, .int v35, .int v36, .ref m37, .ref m38, .ref m39, .ref m40, .long v41])), (m16, .inl (k 0, 5, .inl f16))] sz) [(mo, .inr (12, [.int v0, .ref m1, .ref m2, .ref m3, .ref m4, .ref m5, .int v6, .int v7, .int v8, .int v9, .int v10, .long v11, .int v12, .int v13, .int v14, .int v15, .ref m16, .ref m17, .ref m18, .ref m19, .ref m20, .ref m21, .ref m22, .ref m23, .int v24, .ref m25, .ref m26, .ref m27, .ref m28, .ref m29, .int v30, .ref m31, .ref m32, .ref m33, .int v34, .int v35, .int v36, .ref m37, .ref m38, .ref m39, .ref m40, .long v41])), (m16, .inl (k 0, 5, .inl f16))] tZ) (va_A [(mo, .inr (12, [.int v0, .ref m1, .ref m2, .ref m3, .ref m4, .ref m5, .int v6, .int v7, .int v8, .int v9, .int v10, .long v11, .int v12, .int v13, .int v14, .int v15, .ref m16, .ref m17, .ref m18, .ref m19, .ref m20, .ref m21, .ref m22, .ref m23, .int v24, .ref m25, .ref m26, .ref m27, .ref m28, .ref m29, .int v30, .ref m31, .ref m32, .ref m33, .int v34, .int v35, .int v36, .ref m37, .ref m38, .ref m39, .ref m40, .long v41])), (m16, .inl (k 0, 5, .inl f16))] sz)) 0 0 (va_A [(mo, .inr (12, [.int v0, .ref m1, .ref m2, .ref m3, .ref m4, .ref m5, .int v6, .int v7, .int v8, .int v9, .int v10, .long v11, .int v12, .int v13, .int v14, .int v15, .ref m16, .ref m17, .ref m18, .ref m19, .ref m20, .ref m21, .ref m22, .ref m23, .int v24, .ref m25, .ref m26, .ref m27, .ref m28, .ref m29, .int v30, .ref m31, .ref m32, .ref m33, .int v34, .int v35, .int v36, .ref m37, .ref m38, .ref m39, .ref m40, .long v41])), (m16, .inl (k 0, 5, .inl f16))] sz) := by
  refine Met.ofW (cc := cX12_isSeed) (maxL := 2) (ret := (some .boolean)) (by decide +kernel) rfl ?_
  intro p e s m args below meth c s₁ B hml hv
  obtain ⟨rfl, hsz, hP, hK, hD0, hN⟩ := hv
  have hx := B.exec
  have hb := B.bytes
  have hr := B.returns
  have hts : ∀ w ∈ TT, w.before _ s = true := fun w h => atoms_spec (ws := ww yX12_isSeed cX12_isSeed 2 (some .boolean)) B.pre w (List.mem_cons_of_mem _ h)
  have hown : s.vm.findClass RX12 = some m.cls := findClass_of_methodNamed B.named
  have hlocks := B.notSynchronized
  subst hsz
  have hD := hD0.self (sz := s.heap.size)
  generalize hAe : va_A [(mo, .inr (12, [.int v0, .ref m1, .ref m2, .ref m3, .ref m4, .ref m5, .int v6, .int v7, .int v8, .int v9, .int v10, .long v11, .int v12, .int v13, .int v14, .int v15, .ref m16, .ref m17, .ref m18, .ref m19, .ref m20, .ref m21, .ref m22, .ref m23, .int v24, .ref m25, .ref m26, .ref m27, .ref m28, .ref m29, .int v30, .ref m31, .ref m32, .ref m33, .int v34, .int v35, .int v36, .ref m37, .ref m38, .ref m39, .ref m40, .long v41])), (m16, .inl (k 0, 5, .inl f16))] s.heap.size = A at hD ⊢
  have hA : ∀ q : Nat, s.heap.size ≤ q → A q := fun q h => by rw [← hAe]; exact Or.inr h
  have hS : va_S A s.heap s.heap [] := va_S.rf
  have hl := lv_entry ([.ref mo, .int p0]) (n := 2) (Nat.le_of_ble_eq_true rfl)
  rw [lg_entry_eq]
  generalize (lg_sl ([.ref mo, .int p0]) ++ List.replicate (2 - (lg_sl ([.ref mo, .int p0])).length) Slot.unset).toArray = ls at hl ⊢
  have hl : lv_has ls 2 [(0, .ref mo), (1, .int p0)] := hl
  refine lv_aload_n hx hb dX12_isSeed_0 rfl (lv_at hl 0 rfl) ?_
  have hPc := hP.sub (ws' := [(mo, .inr (12, [.int v0, .ref m1, .ref m2, .ref m3, .ref m4, .ref m5, .int v6, .int v7, .int v8, .int v9, .int v10, .long v11, .int v12, .int v13, .int v14, .int v15, .ref m16, .ref m17, .ref m18, .ref m19, .ref m20, .ref m21, .ref m22, .ref m23, .int v24, .ref m25, .ref m26, .ref m27, .ref m28, .ref m29, .int v30, .ref m31, .ref m32, .ref m33, .int v34, .int v35, .int v36, .ref m37, .ref m38, .ref m39, .ref m40, .long v41])), (m16, .inl (k 0, 5, .inl f16))]) [0, 1] rfl
  have hDc := hD.sub (ws' := [(mo, .inr (12, [.int v0, .ref m1, .ref m2, .ref m3, .ref m4, .ref m5, .int v6, .int v7, .int v8, .int v9, .int v10, .long v11, .int v12, .int v13, .int v14, .int v15, .ref m16, .ref m17, .ref m18, .ref m19, .ref m20, .ref m21, .ref m22, .ref m23, .int v24, .ref m25, .ref m26, .ref m27, .ref m28, .ref m29, .int v30, .ref m31, .ref m32, .ref m33, .int v34, .int v35, .int v36, .ref m37, .ref m38, .ref m39, .ref m40, .long v41])), (m16, .inl (k 0, 5, .inl f16))]) [0, 1] (by decide) rfl
  have hFc := va_free (wc := [(mo, .inr (12, [.int v0, .ref m1, .ref m2, .ref m3, .ref m4, .ref m5, .int v6, .int v7, .int v8, .int v9, .int v10, .long v11, .int v12, .int v13, .int v14, .int v15, .ref m16, .ref m17, .ref m18, .ref m19, .ref m20, .ref m21, .ref m22, .ref m23, .int v24, .ref m25, .ref m26, .ref m27, .ref m28, .ref m29, .int v30, .ref m31, .ref m32, .ref m33, .int v34, .int v35, .int v36, .ref m37, .ref m38, .ref m39, .ref m40, .long v41])), (m16, .inl (k 0, 5, .inl f16))]) hD hS hA [0, 1] rfl
  refine va_calli (va_runV (C := RX12) (As := []) (rest := []) ⟨hx, hb, hml, hown, hts⟩ (c_X12_isTown l D k mo v0 m1 m2 m3 m4 m5 v6 v7 v8 v9 v10 v11 v12 v13 v14 v15 m16 m17 m18 m19 m20 m21 m22 m23 v24 m25 m26 m27 m28 m29 v30 m31 m32 m33 v34 v35 v36 m37 m38 m39 m40 v41 f16 s.heap.size (show 0 ≤ v6.toInt ∧ v6.toInt ≤ 1000 from by omega) (show 0 ≤ v24.toInt ∧ v24.toInt ≤ 1023 from by omega)) (cwV 0 hts (gV tw_7_181 tw_7_183 tw_p_71 tw_1_13 tw_7_184) rfl rfl rfl hdV_X12_isTown ⟨Nat.le_of_ble_eq_true rfl, Nat.le_of_ble_eq_true rfl⟩) (cz_V hK hPc hDc hN (ci := 12) (q0 := 0) rfl rfl []) rfl rfl hl.1 rfl (lv_room (Nat.le_of_ble_eq_true rfl)) dX12_isSeed_1 ⟨Nat.le_of_ble_eq_true rfl, Nat.le_of_ble_eq_true rfl⟩) hS (fun q _ h => hFc q h) hFc (fun r_1 uZ tZ H1 locs ht hvm hw hB hz1 hk1 hS => ?_)
  obtain ⟨hP1, hK1, hD1⟩ := hB
  rw [ht] at hP1
  obtain ⟨hP, hD⟩ := va_join (wr := []) (w1 := [(mo, .inr (12, [.int v0, .ref m1, .ref m2, .ref m3, .ref m4, .ref m5, .int v6, .int v7, .int v8, .int v9, .int v10, .long v11, .int v12, .int v13, .int v14, .int v15, .ref m16, .ref m17, .ref m18, .ref m19, .ref m20, .ref m21, .ref m22, .ref m23, .int v24, .ref m25, .ref m26, .ref m27, .ref m28, .ref m29, .int v30, .ref m31, .ref m32, .ref m33, .int v34, .int v35, .int v36, .ref m37, .ref m38, .ref m39, .ref m40, .long v41])), (m16, .inl (k 0, 5, .inl f16))]) hP hD [0, 1] [] rfl rfl (by decide) (by decide) hk1 hFc hP1 hD1
  clear hK1 hP1 hD1 hPc hDc hFc
  clear hk1 hz1 ht hvm
  have hP : va_P D vwCl [(mo, .inr (12, [.int v0, .ref m1, .ref m2, .ref m3, .ref m4, .ref m5, .int v6, .int v7, .int v8, .int v9, .int v10, .long v11, .int v12, .int v13, .int v14, .int v15, .ref m16, .ref m17, .ref m18, .ref m19, .ref m20, .ref m21, .ref m22, .ref m23, .int v24, .ref m25, .ref m26, .ref m27, .ref m28, .ref m29, .int v30, .ref m31, .ref m32, .ref m33, .int v34, .int v35, .int v36, .ref m37, .ref m38, .ref m39, .ref m40, .long v41])), (m16, .inl (k 0, 5, .inl f16))] H1 := hP
  have hD : va_D A [(mo, .inr (12, [.int v0, .ref m1, .ref m2, .ref m3, .ref m4, .ref m5, .int v6, .int v7, .int v8, .int v9, .int v10, .long v11, .int v12, .int v13, .int v14, .int v15, .ref m16, .ref m17, .ref m18, .ref m19, .ref m20, .ref m21, .ref m22, .ref m23, .int v24, .ref m25, .ref m26, .ref m27, .ref m28, .ref m29, .int v30, .ref m31, .ref m32, .ref m33, .int v34, .int v35, .int v36, .ref m37, .ref m38, .ref m39, .ref m40, .long v41])), (m16, .inl (k 0, 5, .inl f16))] := hD
  generalize H1 = H at hP hS ⊢
  have hw_2 : (0 ≤ r_1.toInt ∧ r_1.toInt ≤ 1) := hw
  have hw_3 := hw_2
  clear hw
  refine lv_if_eq (tgt := 23) hx hb dX12_isSeed_4 (by decide) (fun h_4 => ?_) (fun h_4 => ?_)
  · skip
    have zh_4 : r_1.toInt = 0 := z_eq h_4
    refine lv_iconst (v := 0) hx hb dX12_isSeed_23 (by decide) ?_
    have hP9 := hP.sub (ws' := [(mo, .inr (12, [.int v0, .ref m1, .ref m2, .ref m3, .ref m4, .ref m5, .int v6, .int v7, .int v8, .int v9, .int v10, .long v11, .int v12, .int v13, .int v14, .int v15, .ref m16, .ref m17, .ref m18, .ref m19, .ref m20, .ref m21, .ref m22, .ref m23, .int v24, .ref m25, .ref m26, .ref m27, .ref m28, .ref m29, .int v30, .ref m31, .ref m32, .ref m33, .int v34, .int v35, .int v36, .ref m37, .ref m38, .ref m39, .ref m40, .long v41])), (m16, .inl (k 0, 5, .inl f16))]) [0, 1] rfl
    have hD9 := hD.sub (ws' := [(mo, .inr (12, [.int v0, .ref m1, .ref m2, .ref m3, .ref m4, .ref m5, .int v6, .int v7, .int v8, .int v9, .int v10, .long v11, .int v12, .int v13, .int v14, .int v15, .ref m16, .ref m17, .ref m18, .ref m19, .ref m20, .ref m21, .ref m22, .ref m23, .int v24, .ref m25, .ref m26, .ref m27, .ref m28, .ref m29, .int v30, .ref m31, .ref m32, .ref m33, .int v34, .int v35, .int v36, .ref m37, .ref m38, .ref m39, .ref m40, .long v41])), (m16, .inl (k 0, 5, .inl f16))]) [0, 1] (by decide) rfl
    exact W.zret (v := 0) hx hb hr (by decide) (fun tZ ht hW => ⟨⟨0, (), rfl, ⟨(show 0 ≤ 0 ∧ 0 ≤ 1 from by omega), (show (0 = 1 ∧ 0 ≤ p0.toInt ∧ p0.toInt ≤ 2000000000) ∨ 0 = 0 from by omega)⟩, by rw [ht]; exact hP9, va_K.moved hW.alike hK, hD9⟩, hS.F ht⟩) hS.2.2 dX12_isSeed_24
  · skip
    have zh_4 : ¬ r_1.toInt = 0 := z_ne h_4
    refine lv_iload_n hx hb dX12_isSeed_7 rfl (lv_at hl 1 rfl) ?_
    refine lv_i2l (v := p0.toInt64) hx hb dX12_isSeed_8 rfl ?_
    refine lv_lconst (v := 0) hx hb dX12_isSeed_9 (by decide) ?_
    refine lv_ldc2 (v := 2000000000) hx hb hown (hts _ tw_8_232) dX12_isSeed_10 ?_
    have hPc := hP.sub (ws' := []) [] rfl
    have hDc := hD.sub (ws' := []) [] (by decide) rfl
    have hFc := va_free (wc := []) hD hS hA [] rfl
    refine va_calli (va_runS (As := [.long p0.toInt64, .long 0, .long 2000000000]) (rest := []) ⟨hx, hb, hml, hown, hts⟩ (c_X12_in l D k p0.toInt64 0 2000000000 H.size) (va_cwS 3 hts (gS tw_6_188 tw_6_189 tw_1_13 tw_6_190) rfl rfl rfl hdS_X12_in ⟨Nat.le_of_ble_eq_true rfl, Nat.le_of_ble_eq_true rfl⟩) (cz_S hK hPc hDc hN [.long p0.toInt64, .long 0, .long 2000000000]) rfl rfl hl.1 rfl (lv_room (Nat.le_of_ble_eq_true rfl)) dX12_isSeed_13 ⟨Nat.le_of_ble_eq_true rfl, Nat.le_of_ble_eq_true rfl⟩) hS (fun q _ h => hFc q h) hFc (fun r_5 uZ tZ H1 locs ht hvm hw hB hz1 hk1 hS => ?_)
    obtain ⟨hP1, hK1, hD1⟩ := hB
    rw [ht] at hP1
    obtain ⟨hP, hD⟩ := va_join (wr := [(mo, .inr (12, [.int v0, .ref m1, .ref m2, .ref m3, .ref m4, .ref m5, .int v6, .int v7, .int v8, .int v9, .int v10, .long v11, .int v12, .int v13, .int v14, .int v15, .ref m16, .ref m17, .ref m18, .ref m19, .ref m20, .ref m21, .ref m22, .ref m23, .int v24, .ref m25, .ref m26, .ref m27, .ref m28, .ref m29, .int v30, .ref m31, .ref m32, .ref m33, .int v34, .int v35, .int v36, .ref m37, .ref m38, .ref m39, .ref m40, .long v41])), (m16, .inl (k 0, 5, .inl f16))]) (w1 := []) hP hD [] [0, 1] rfl rfl (by decide) (by decide) hk1 hFc hP1 hD1
    clear hK1 hP1 hD1 hPc hDc hFc
    clear hk1 hz1 ht hvm
    have hP : va_P D vwCl [(mo, .inr (12, [.int v0, .ref m1, .ref m2, .ref m3, .ref m4, .ref m5, .int v6, .int v7, .int v8, .int v9, .int v10, .long v11, .int v12, .int v13, .int v14, .int v15, .ref m16, .ref m17, .ref m18, .ref m19, .ref m20, .ref m21, .ref m22, .ref m23, .int v24, .ref m25, .ref m26, .ref m27, .ref m28, .ref m29, .int v30, .ref m31, .ref m32, .ref m33, .int v34, .int v35, .int v36, .ref m37, .ref m38, .ref m39, .ref m40, .long v41])), (m16, .inl (k 0, 5, .inl f16))] H1 := hP
    have hD : va_D A [(mo, .inr (12, [.int v0, .ref m1, .ref m2, .ref m3, .ref m4, .ref m5, .int v6, .int v7, .int v8, .int v9, .int v10, .long v11, .int v12, .int v13, .int v14, .int v15, .ref m16, .ref m17, .ref m18, .ref m19, .ref m20, .ref m21, .ref m22, .ref m23, .int v24, .ref m25, .ref m26, .ref m27, .ref m28, .ref m29, .int v30, .ref m31, .ref m32, .ref m33, .int v34, .int v35, .int v36, .ref m37, .ref m38, .ref m39, .ref m40, .long v41])), (m16, .inl (k 0, 5, .inl f16))] := hD
    generalize H1 = H at hP hS ⊢
    have hw_6 : (0 ≤ r_5.toInt ∧ r_5.toInt ≤ 1) ∧ ((r_5.toInt = 1 ∧ 0 ≤ p0.toInt64.toInt ∧ p0.toInt64.toInt ≤ 2000000000) ∨ (r_5.toInt = 0 ∧ (p0.toInt64.toInt < 0 ∨ 2000000000 < p0.toInt64.toInt))) := hw
    obtain ⟨hw_7, hw_8⟩ := hw_6
    clear hw
    simp only [Int32.toInt_toInt64] at hw_7 hw_8
    refine lv_if_eq (tgt := 23) hx hb dX12_isSeed_16 (by decide) (fun h_9 => ?_) (fun h_9 => ?_)
    · skip
      have zh_9 : r_5.toInt = 0 := z_eq h_9
      refine lv_iconst (v := 0) hx hb dX12_isSeed_23 (by decide) ?_
      have hP9 := hP.sub (ws' := [(mo, .inr (12, [.int v0, .ref m1, .ref m2, .ref m3, .ref m4, .ref m5, .int v6, .int v7, .int v8, .int v9, .int v10, .long v11, .int v12, .int v13, .int v14, .int v15, .ref m16, .ref m17, .ref m18, .ref m19, .ref m20, .ref m21, .ref m22, .ref m23, .int v24, .ref m25, .ref m26, .ref m27, .ref m28, .ref m29, .int v30, .ref m31, .ref m32, .ref m33, .int v34, .int v35, .int v36, .ref m37, .ref m38, .ref m39, .ref m40, .long v41])), (m16, .inl (k 0, 5, .inl f16))]) [0, 1] rfl
      have hD9 := hD.sub (ws' := [(mo, .inr (12, [.int v0, .ref m1, .ref m2, .ref m3, .ref m4, .ref m5, .int v6, .int v7, .int v8, .int v9, .int v10, .long v11, .int v12, .int v13, .int v14, .int v15, .ref m16, .ref m17, .ref m18, .ref m19, .ref m20, .ref m21, .ref m22, .ref m23, .int v24, .ref m25, .ref m26, .ref m27, .ref m28, .ref m29, .int v30, .ref m31, .ref m32, .ref m33, .int v34, .int v35, .int v36, .ref m37, .ref m38, .ref m39, .ref m40, .long v41])), (m16, .inl (k 0, 5, .inl f16))]) [0, 1] (by decide) rfl
      exact W.zret (v := 0) hx hb hr (by decide) (fun tZ ht hW => ⟨⟨0, (), rfl, ⟨(show 0 ≤ 0 ∧ 0 ≤ 1 from by omega), (show (0 = 1 ∧ 0 ≤ p0.toInt ∧ p0.toInt ≤ 2000000000) ∨ 0 = 0 from by omega)⟩, by rw [ht]; exact hP9, va_K.moved hW.alike hK, hD9⟩, hS.F ht⟩) hS.2.2 dX12_isSeed_24
    · skip
      have zh_9 : ¬ r_5.toInt = 0 := z_ne h_9
      refine lv_iconst (v := 1) hx hb dX12_isSeed_19 (by decide) ?_
      refine lv_goto (tgt := 24) hx hb dX12_isSeed_20 (by decide) ?_
      have hP9 := hP.sub (ws' := [(mo, .inr (12, [.int v0, .ref m1, .ref m2, .ref m3, .ref m4, .ref m5, .int v6, .int v7, .int v8, .int v9, .int v10, .long v11, .int v12, .int v13, .int v14, .int v15, .ref m16, .ref m17, .ref m18, .ref m19, .ref m20, .ref m21, .ref m22, .ref m23, .int v24, .ref m25, .ref m26, .ref m27, .ref m28, .ref m29, .int v30, .ref m31, .ref m32, .ref m33, .int v34, .int v35, .int v36, .ref m37, .ref m38, .ref m39, .ref m40, .long v41])), (m16, .inl (k 0, 5, .inl f16))]) [0, 1] rfl
      have hD9 := hD.sub (ws' := [(mo, .inr (12, [.int v0, .ref m1, .ref m2, .ref m3, .ref m4, .ref m5, .int v6, .int v7, .int v8, .int v9, .int v10, .long v11, .int v12, .int v13, .int v14, .int v15, .ref m16, .ref m17, .ref m18, .ref m19, .ref m20, .ref m21, .ref m22, .ref m23, .int v24, .ref m25, .ref m26, .ref m27, .ref m28, .ref m29, .int v30, .ref m31, .ref m32, .ref m33, .int v34, .int v35, .int v36, .ref m37, .ref m38, .ref m39, .ref m40, .long v41])), (m16, .inl (k 0, 5, .inl f16))]) [0, 1] (by decide) rfl
      exact W.zret (v := 1) hx hb hr (by decide) (fun tZ ht hW => ⟨⟨1, (), rfl, ⟨(show 0 ≤ 1 ∧ 1 ≤ 1 from by omega), (show (1 = 1 ∧ 0 ≤ p0.toInt ∧ p0.toInt ≤ 2000000000) ∨ 1 = 0 from by omega)⟩, by rw [ht]; exact hP9, va_K.moved hW.alike hK, hD9⟩, hS.F ht⟩) hS.2.2 dX12_isSeed_24
set_option maxHeartbeats 4000000 in
set_option maxRecDepth 100000 in
theorem c_X12_tell (l : Launch) (D : va_G) (k : Nat → ClassId) (mo : Nat) (p0 : Int32) (p1 : Int32) (p2 : Int32) (v0 : Int32) (m1 : Nat) (m2 : Nat) (m3 : Nat) (m4 : Nat) (m5 : Nat) (v6 : Int32) (v7 : Int32) (v8 : Int32) (v9 : Int32) (v10 : Int32) (v11 : Int64) (v12 : Int32) (v13 : Int32) (v14 : Int32) (v15 : Int32) (m16 : Nat) (m17 : Nat) (m18 : Nat) (m19 : Nat) (m20 : Nat) (m21 : Nat) (m22 : Nat) (m23 : Nat) (v24 : Int32) (m25 : Nat) (m26 : Nat) (m27 : Nat) (m28 : Nat) (m29 : Nat) (v30 : Int32) (m31 : Nat) (m32 : Nat) (m33 : Nat) (v34 : Int32) (v35 : Int32) (v36 : Int32) (m37 : Nat) (m38 : Nat) (m39 : Nat) (m40 : Nat) (v41 : Int64) (f17 : Nat → Int32) (f20 : Nat → Int32) (sz : Nat) (h_v6 : 0 ≤ v6.toInt ∧ v6.toInt ≤ 1000) (h_v24 : 0 ≤ v24.toInt ∧ v24.toInt ≤ 1023) (hp_f17_0 : PR 30 6 0 0 8 f17) (hp_f17_1 : PR 30 6 1 0 10 f17) (hp_f17_2 : PR 30 6 2 0 4 f17) (hp_f17_3 : PR 30 6 3 0 6 f17) (hp_f17_4 : PR 30 6 4 0 2 f17) (hp_f17_5 : PR 30 6 5 0 40 f17) (hp_f20_0 : PR 120 4 0 0 7 f20) : Met l yX12_tell (ww yX12_tell cX12_tell 5 (some .int)) ({ frames := 2, cells := 0, slots := 0, locals := 46 }) (Pre0 D k [(mo, .inr (12, [.int v0, .ref m1, .ref m2, .ref m3, .ref m4, .ref m5, .int v6, .int v7, .int v8, .int v9, .int v10, .long v11, .int v12, .int v13, .int v14, .int v15, .ref m16, .ref m17, .ref m18, .ref m19, .ref m20, .ref m21, .ref m22, .ref m23, .int v24, .ref m25, .ref m26, .ref m27, .ref m28, .ref m29, .int v30, .ref m31, .ref m32, .ref m33, .int v34, .int v35, .int v36, .ref m37, .ref m38, .ref m39, .ref m40, .long v41])), (m17, .inl (k 0, 30, .inl f17)), (m20, .inl (k 0, 120, .inl f20))] sz [.ref mo, .int p0, .int p1, .int p2]) (va_Qi (fun (r : Int32) (u : Int32 × (Nat → Int32)) => match u with | (v0z, f20z) => (0 ≤ v0z.toInt ∧ v0z.toInt ≤ 0)) (fun (u : Int32 × (Nat → Int32)) tZ => match u with | (v0z, f20z) => Bw D k (va_A [(mo, .inr (12, [.int v0, .ref m1, .ref m2, .ref m3, .ref m4, .ref m5, .int v6, .int v7, .int v8, .int v9, .int v10, .long v11, .int v12, .int v13, .int v14, .int v15, .ref m16, .ref m17, .ref m18, .ref m19, .ref m20, .ref m21, .ref m22, .ref m23, .int v24, .ref m25, .ref m26, .ref m27, .ref m28, .ref m29, .int v30, .ref m31, .ref m32, .ref m33, .int v34, .int v35, .int v36, .ref m37, .ref m38, .ref m39, .ref m40, .long v41])), (m17, .inl (k 0, 30, .inl f17)), (m20, .inl (k 0, 120, .inl f20))] sz) [(mo, .inr (12, [.int v0z, .ref m1, .ref m2, .ref m3, .ref m4, .ref m5, .int v6, .int v7, .int v8, .int v9, .int v10, .long v11, .int v12, .int v13, .int v14, .int v15, .ref m16, .ref m17, .ref m18, .ref m19, .ref m20, .ref m21, .ref m22, .ref m23, .int v24, .ref m25, .ref m26, .ref m27, .ref m28, .ref m29, .int v30, .ref m31, .ref m32, .ref m33, .int v34, .int v35, .int v36, .ref m37, .ref m38, .ref m39, .ref m40, .long v41])), (m17, .inl (k 0, 30, .inl f17)), (m20, .inl (k 0, 120, .inl f20z))] tZ) (va_A [(mo, .inr (12, [.int v0, .ref m1, .ref m2, .ref m3, .ref m4, .ref m5, .int v6, .int v7, .int v8, .int v9, .int v10, .long v11, .int v12, .int v13, .int v14, .int v15, .ref m16, .ref m17, .ref m18, .ref m19, .ref m20, .ref m21, .ref m22, .ref m23, .int v24, .ref m25, .ref m26, .ref m27, .ref m28, .ref m29, .int v30, .ref m31, .ref m32, .ref m33, .int v34, .int v35, .int v36, .ref m37, .ref m38, .ref m39, .ref m40, .long v41])), (m17, .inl (k 0, 30, .inl f17)), (m20, .inl (k 0, 120, .inl f20))] sz)) 0 0 (va_A [(mo, .inr (12, [.int v0, .ref m1, .ref m2, .ref m3, .ref m4, .ref m5, .int v6, .int v7, .int v8, .int v9, .int v10, .long v11, .int v12, .int v13, .int v14, .int v15, .ref m16, .ref m17, .ref m18, .ref m19, .ref m20, .ref m21, .ref m22, .ref m23, .int v24, .ref m25, .ref m26, .ref m27, .ref m28, .ref m29, .int v30, .ref m31, .ref m32, .ref m33, .int v34, .int v35, .int v36, .ref m37, .ref m38, .ref m39, .ref m40, .long v41])), (m17, .inl (k 0, 30, .inl f17)), (m20, .inl (k 0, 120, .inl f20))] sz) := by
  refine Met.ofW (cc := cX12_tell) (maxL := 5) (ret := (some .int)) (by decide +kernel) rfl ?_
  intro p e s m args below meth c s₁ B hml hv
  obtain ⟨rfl, hsz, hP, hK, hD0, hN⟩ := hv
  have hx := B.exec
  have hb := B.bytes
  have hr := B.returns
  have hts : ∀ w ∈ TT, w.before _ s = true := fun w h => atoms_spec (ws := ww yX12_tell cX12_tell 5 (some .int)) B.pre w (List.mem_cons_of_mem _ h)
  have hown : s.vm.findClass RX12 = some m.cls := findClass_of_methodNamed B.named
  have hlocks := B.notSynchronized
  subst hsz
  have hD := hD0.self (sz := s.heap.size)
  generalize hAe : va_A [(mo, .inr (12, [.int v0, .ref m1, .ref m2, .ref m3, .ref m4, .ref m5, .int v6, .int v7, .int v8, .int v9, .int v10, .long v11, .int v12, .int v13, .int v14, .int v15, .ref m16, .ref m17, .ref m18, .ref m19, .ref m20, .ref m21, .ref m22, .ref m23, .int v24, .ref m25, .ref m26, .ref m27, .ref m28, .ref m29, .int v30, .ref m31, .ref m32, .ref m33, .int v34, .int v35, .int v36, .ref m37, .ref m38, .ref m39, .ref m40, .long v41])), (m17, .inl (k 0, 30, .inl f17)), (m20, .inl (k 0, 120, .inl f20))] s.heap.size = A at hD ⊢
  have hA : ∀ q : Nat, s.heap.size ≤ q → A q := fun q h => by rw [← hAe]; exact Or.inr h
  have hS : va_S A s.heap s.heap [] := va_S.rf
  have hl := lv_entry ([.ref mo, .int p0, .int p1, .int p2]) (n := 5) (Nat.le_of_ble_eq_true rfl)
  rw [lg_entry_eq]
  generalize (lg_sl ([.ref mo, .int p0, .int p1, .int p2]) ++ List.replicate (5 - (lg_sl ([.ref mo, .int p0, .int p1, .int p2])).length) Slot.unset).toArray = ls at hl ⊢
  have hl : lv_has ls 5 [(0, .ref mo), (1, .int p0), (2, .int p1), (3, .int p2)] := hl
  refine lv_aload_n hx hb dX12_tell_0 rfl (lv_at hl 0 rfl) ?_
  refine lv_iconst (v := 0) hx hb dX12_tell_1 (by decide) ?_
  refine va_put (D := D) (ci := 12) (v := .int 0) (ty := tyX12 0) (C := RX12) (T := TX12) (N := 42) hx hb hts iT_X12 tyX12 tyX12_ok nmX12 hown hK hP hD hS 0 rfl rfl 0 (by decide) (hts _ tw_6_53) (fun _ h9 => h9) rfl (tyX12_ok 0 (by decide)) rfl rfl (Nat.le_of_ble_eq_true rfl) dX12_tell_2 (fun H locs hP hD hS => ?_)
  have hP : va_P D vwCl [(mo, .inr (12, [.int 0, .ref m1, .ref m2, .ref m3, .ref m4, .ref m5, .int v6, .int v7, .int v8, .int v9, .int v10, .long v11, .int v12, .int v13, .int v14, .int v15, .ref m16, .ref m17, .ref m18, .ref m19, .ref m20, .ref m21, .ref m22, .ref m23, .int v24, .ref m25, .ref m26, .ref m27, .ref m28, .ref m29, .int v30, .ref m31, .ref m32, .ref m33, .int v34, .int v35, .int v36, .ref m37, .ref m38, .ref m39, .ref m40, .long v41])), (m17, .inl (k 0, 30, .inl f17)), (m20, .inl (k 0, 120, .inl f20))] H := hP
  have hD : va_D A [(mo, .inr (12, [.int 0, .ref m1, .ref m2, .ref m3, .ref m4, .ref m5, .int v6, .int v7, .int v8, .int v9, .int v10, .long v11, .int v12, .int v13, .int v14, .int v15, .ref m16, .ref m17, .ref m18, .ref m19, .ref m20, .ref m21, .ref m22, .ref m23, .int v24, .ref m25, .ref m26, .ref m27, .ref m28, .ref m29, .int v30, .ref m31, .ref m32, .ref m33, .int v34, .int v35, .int v36, .ref m37, .ref m38, .ref m39, .ref m40, .long v41])), (m17, .inl (k 0, 30, .inl f17)), (m20, .inl (k 0, 120, .inl f20))] := hD
  refine lv_aload_n hx hb dX12_tell_5 rfl (lv_at hl 0 rfl) ?_
  refine lv_iload_n hx hb dX12_tell_6 rfl (lv_at hl 1 rfl) ?_
  have hPc := hP.sub (ws' := [(mo, .inr (12, [.int 0, .ref m1, .ref m2, .ref m3, .ref m4, .ref m5, .int v6, .int v7, .int v8, .int v9, .int v10, .long v11, .int v12, .int v13, .int v14, .int v15, .ref m16, .ref m17, .ref m18, .ref m19, .ref m20, .ref m21, .ref m22, .ref m23, .int v24, .ref m25, .ref m26, .ref m27, .ref m28, .ref m29, .int v30, .ref m31, .ref m32, .ref m33, .int v34, .int v35, .int v36, .ref m37, .ref m38, .ref m39, .ref m40, .long v41])), (m17, .inl (k 0, 30, .inl f17))]) [0, 1] rfl
  have hDc := hD.sub (ws' := [(mo, .inr (12, [.int 0, .ref m1, .ref m2, .ref m3, .ref m4, .ref m5, .int v6, .int v7, .int v8, .int v9, .int v10, .long v11, .int v12, .int v13, .int v14, .int v15, .ref m16, .ref m17, .ref m18, .ref m19, .ref m20, .ref m21, .ref m22, .ref m23, .int v24, .ref m25, .ref m26, .ref m27, .ref m28, .ref m29, .int v30, .ref m31, .ref m32, .ref m33, .int v34, .int v35, .int v36, .ref m37, .ref m38, .ref m39, .ref m40, .long v41])), (m17, .inl (k 0, 30, .inl f17))]) [0, 1] (by decide) rfl
  have hFc := va_free (wc := [(mo, .inr (12, [.int 0, .ref m1, .ref m2, .ref m3, .ref m4, .ref m5, .int v6, .int v7, .int v8, .int v9, .int v10, .long v11, .int v12, .int v13, .int v14, .int v15, .ref m16, .ref m17, .ref m18, .ref m19, .ref m20, .ref m21, .ref m22, .ref m23, .int v24, .ref m25, .ref m26, .ref m27, .ref m28, .ref m29, .int v30, .ref m31, .ref m32, .ref m33, .int v34, .int v35, .int v36, .ref m37, .ref m38, .ref m39, .ref m40, .long v41])), (m17, .inl (k 0, 30, .inl f17))]) hD hS hA [0, 1] rfl
  refine va_calli (va_runV (C := RX12) (As := [.int p0]) (rest := []) ⟨hx, hb, hml, hown, hts⟩ (c_X12_isHouse l D k mo p0 0 m1 m2 m3 m4 m5 v6 v7 v8 v9 v10 v11 v12 v13 v14 v15 m16 m17 m18 m19 m20 m21 m22 m23 v24 m25 m26 m27 m28 m29 v30 m31 m32 m33 v34 v35 v36 m37 m38 m39 m40 v41 f17 H.size (show 0 ≤ v6.toInt ∧ v6.toInt ≤ 1000 from by omega) (show 0 ≤ v24.toInt ∧ v24.toInt ≤ 1023 from by omega) hp_f17_0 hp_f17_1 hp_f17_2 hp_f17_3 hp_f17_4 hp_f17_5) (cwV 1 hts (gV tw_7_125 tw_7_127 tw_p_61 tw_1_13 tw_7_128) rfl rfl rfl hdV_X12_isHouse ⟨Nat.le_of_ble_eq_true rfl, Nat.le_of_ble_eq_true rfl⟩) (cz_V hK hPc hDc hN (ci := 12) (q0 := 0) rfl rfl [.int p0]) rfl rfl hl.1 rfl (lv_room (Nat.le_of_ble_eq_true rfl)) dX12_tell_7 ⟨Nat.le_of_ble_eq_true rfl, Nat.le_of_ble_eq_true rfl⟩) hS (fun q _ h => hFc q h) hFc (fun r_1 uZ tZ H1 locs ht hvm hw hB hz1 hk1 hS => ?_)
  obtain ⟨hP1, hK1, hD1⟩ := hB
  rw [ht] at hP1
  obtain ⟨hP, hD⟩ := va_join (wr := [(m20, .inl (k 0, 120, .inl f20))]) (w1 := [(mo, .inr (12, [.int 0, .ref m1, .ref m2, .ref m3, .ref m4, .ref m5, .int v6, .int v7, .int v8, .int v9, .int v10, .long v11, .int v12, .int v13, .int v14, .int v15, .ref m16, .ref m17, .ref m18, .ref m19, .ref m20, .ref m21, .ref m22, .ref m23, .int v24, .ref m25, .ref m26, .ref m27, .ref m28, .ref m29, .int v30, .ref m31, .ref m32, .ref m33, .int v34, .int v35, .int v36, .ref m37, .ref m38, .ref m39, .ref m40, .long v41])), (m17, .inl (k 0, 30, .inl f17))]) hP hD [0, 1] [2] rfl rfl (by decide) (by decide) hk1 hFc hP1 hD1
  clear hK1 hP1 hD1 hPc hDc hFc
  clear hk1 hz1 ht hvm
  have hP : va_P D vwCl [(m20, .inl (k 0, 120, .inl f20)), (mo, .inr (12, [.int 0, .ref m1, .ref m2, .ref m3, .ref m4, .ref m5, .int v6, .int v7, .int v8, .int v9, .int v10, .long v11, .int v12, .int v13, .int v14, .int v15, .ref m16, .ref m17, .ref m18, .ref m19, .ref m20, .ref m21, .ref m22, .ref m23, .int v24, .ref m25, .ref m26, .ref m27, .ref m28, .ref m29, .int v30, .ref m31, .ref m32, .ref m33, .int v34, .int v35, .int v36, .ref m37, .ref m38, .ref m39, .ref m40, .long v41])), (m17, .inl (k 0, 30, .inl f17))] H1 := hP
  have hD : va_D A [(m20, .inl (k 0, 120, .inl f20)), (mo, .inr (12, [.int 0, .ref m1, .ref m2, .ref m3, .ref m4, .ref m5, .int v6, .int v7, .int v8, .int v9, .int v10, .long v11, .int v12, .int v13, .int v14, .int v15, .ref m16, .ref m17, .ref m18, .ref m19, .ref m20, .ref m21, .ref m22, .ref m23, .int v24, .ref m25, .ref m26, .ref m27, .ref m28, .ref m29, .int v30, .ref m31, .ref m32, .ref m33, .int v34, .int v35, .int v36, .ref m37, .ref m38, .ref m39, .ref m40, .long v41])), (m17, .inl (k 0, 30, .inl f17))] := hD
  generalize H1 = H at hP hS ⊢
  have hw_2 : (0 ≤ r_1.toInt ∧ r_1.toInt ≤ 1) ∧ ((r_1.toInt = 1 ∧ 0 ≤ p0.toInt ∧ p0.toInt ≤ 5) ∨ r_1.toInt = 0) := hw
  obtain ⟨hw_3, hw_4⟩ := hw_2
  clear hw
  refine lv_if_eq (tgt := 37) hx hb dX12_tell_10 (by decide) (fun h_5 => ?_) (fun h_5 => ?_)
  · skip
    have zh_5 : r_1.toInt = 0 := z_eq h_5
    refine lv_bipush (v := (-2)) hx hb dX12_tell_37 (by decide) ?_
    have hP9 := hP.sub (ws' := [(mo, .inr (12, [.int 0, .ref m1, .ref m2, .ref m3, .ref m4, .ref m5, .int v6, .int v7, .int v8, .int v9, .int v10, .long v11, .int v12, .int v13, .int v14, .int v15, .ref m16, .ref m17, .ref m18, .ref m19, .ref m20, .ref m21, .ref m22, .ref m23, .int v24, .ref m25, .ref m26, .ref m27, .ref m28, .ref m29, .int v30, .ref m31, .ref m32, .ref m33, .int v34, .int v35, .int v36, .ref m37, .ref m38, .ref m39, .ref m40, .long v41])), (m17, .inl (k 0, 30, .inl f17)), (m20, .inl (k 0, 120, .inl f20))]) [1, 2, 0] rfl
    have hD9 := hD.sub (ws' := [(mo, .inr (12, [.int 0, .ref m1, .ref m2, .ref m3, .ref m4, .ref m5, .int v6, .int v7, .int v8, .int v9, .int v10, .long v11, .int v12, .int v13, .int v14, .int v15, .ref m16, .ref m17, .ref m18, .ref m19, .ref m20, .ref m21, .ref m22, .ref m23, .int v24, .ref m25, .ref m26, .ref m27, .ref m28, .ref m29, .int v30, .ref m31, .ref m32, .ref m33, .int v34, .int v35, .int v36, .ref m37, .ref m38, .ref m39, .ref m40, .long v41])), (m17, .inl (k 0, 30, .inl f17)), (m20, .inl (k 0, 120, .inl f20))]) [1, 2, 0] (by decide) rfl
    exact W.iret (v := (-2)) hx hb hr (fun tZ ht hW => ⟨⟨(-2), (0, f20), rfl, (show 0 ≤ 0 ∧ 0 ≤ 0 from by omega), by rw [ht]; exact hP9, va_K.moved hW.alike hK, hD9⟩, hS.F ht⟩) hS.2.2 dX12_tell_39
  · skip
    have zh_5 : ¬ r_1.toInt = 0 := z_ne h_5
    refine lv_iload_n hx hb dX12_tell_13 rfl (lv_at hl 2 rfl) ?_
    refine lv_i2l (v := p1.toInt64) hx hb dX12_tell_14 rfl ?_
    refine lv_lconst (v := 1) hx hb dX12_tell_15 (by decide) ?_
    refine lv_ldc2 (v := 2) hx hb hown (hts _ tw_9_10) dX12_tell_16 ?_
    have hPc := hP.sub (ws' := []) [] rfl
    have hDc := hD.sub (ws' := []) [] (by decide) rfl
    have hFc := va_free (wc := []) hD hS hA [] rfl
    refine va_calli (va_runS (As := [.long p1.toInt64, .long 1, .long 2]) (rest := []) ⟨hx, hb, hml, hown, hts⟩ (c_X12_in l D k p1.toInt64 1 2 H.size) (va_cwS 3 hts (gS tw_6_188 tw_6_189 tw_1_13 tw_6_190) rfl rfl rfl hdS_X12_in ⟨Nat.le_of_ble_eq_true rfl, Nat.le_of_ble_eq_true rfl⟩) (cz_S hK hPc hDc hN [.long p1.toInt64, .long 1, .long 2]) rfl rfl hl.1 rfl (lv_room (Nat.le_of_ble_eq_true rfl)) dX12_tell_19 ⟨Nat.le_of_ble_eq_true rfl, Nat.le_of_ble_eq_true rfl⟩) hS (fun q _ h => hFc q h) hFc (fun r_6 uZ tZ H1 locs ht hvm hw hB hz1 hk1 hS => ?_)
    obtain ⟨hP1, hK1, hD1⟩ := hB
    rw [ht] at hP1
    obtain ⟨hP, hD⟩ := va_join (wr := [(m20, .inl (k 0, 120, .inl f20)), (mo, .inr (12, [.int 0, .ref m1, .ref m2, .ref m3, .ref m4, .ref m5, .int v6, .int v7, .int v8, .int v9, .int v10, .long v11, .int v12, .int v13, .int v14, .int v15, .ref m16, .ref m17, .ref m18, .ref m19, .ref m20, .ref m21, .ref m22, .ref m23, .int v24, .ref m25, .ref m26, .ref m27, .ref m28, .ref m29, .int v30, .ref m31, .ref m32, .ref m33, .int v34, .int v35, .int v36, .ref m37, .ref m38, .ref m39, .ref m40, .long v41])), (m17, .inl (k 0, 30, .inl f17))]) (w1 := []) hP hD [] [0, 1, 2] rfl rfl (by decide) (by decide) hk1 hFc hP1 hD1
    clear hK1 hP1 hD1 hPc hDc hFc
    clear hk1 hz1 ht hvm
    have hP : va_P D vwCl [(m20, .inl (k 0, 120, .inl f20)), (mo, .inr (12, [.int 0, .ref m1, .ref m2, .ref m3, .ref m4, .ref m5, .int v6, .int v7, .int v8, .int v9, .int v10, .long v11, .int v12, .int v13, .int v14, .int v15, .ref m16, .ref m17, .ref m18, .ref m19, .ref m20, .ref m21, .ref m22, .ref m23, .int v24, .ref m25, .ref m26, .ref m27, .ref m28, .ref m29, .int v30, .ref m31, .ref m32, .ref m33, .int v34, .int v35, .int v36, .ref m37, .ref m38, .ref m39, .ref m40, .long v41])), (m17, .inl (k 0, 30, .inl f17))] H1 := hP
    have hD : va_D A [(m20, .inl (k 0, 120, .inl f20)), (mo, .inr (12, [.int 0, .ref m1, .ref m2, .ref m3, .ref m4, .ref m5, .int v6, .int v7, .int v8, .int v9, .int v10, .long v11, .int v12, .int v13, .int v14, .int v15, .ref m16, .ref m17, .ref m18, .ref m19, .ref m20, .ref m21, .ref m22, .ref m23, .int v24, .ref m25, .ref m26, .ref m27, .ref m28, .ref m29, .int v30, .ref m31, .ref m32, .ref m33, .int v34, .int v35, .int v36, .ref m37, .ref m38, .ref m39, .ref m40, .long v41])), (m17, .inl (k 0, 30, .inl f17))] := hD
    generalize H1 = H at hP hS ⊢
    have hw_7 : (0 ≤ r_6.toInt ∧ r_6.toInt ≤ 1) ∧ ((r_6.toInt = 1 ∧ 1 ≤ p1.toInt64.toInt ∧ p1.toInt64.toInt ≤ 2) ∨ (r_6.toInt = 0 ∧ (p1.toInt64.toInt < 1 ∨ 2 < p1.toInt64.toInt))) := hw
    obtain ⟨hw_8, hw_9⟩ := hw_7
    clear hw
    simp only [Int32.toInt_toInt64] at hw_8 hw_9
    refine lv_if_eq (tgt := 37) hx hb dX12_tell_22 (by decide) (fun h_10 => ?_) (fun h_10 => ?_)
    · skip
      have zh_10 : r_6.toInt = 0 := z_eq h_10
      refine lv_bipush (v := (-2)) hx hb dX12_tell_37 (by decide) ?_
      have hP9 := hP.sub (ws' := [(mo, .inr (12, [.int 0, .ref m1, .ref m2, .ref m3, .ref m4, .ref m5, .int v6, .int v7, .int v8, .int v9, .int v10, .long v11, .int v12, .int v13, .int v14, .int v15, .ref m16, .ref m17, .ref m18, .ref m19, .ref m20, .ref m21, .ref m22, .ref m23, .int v24, .ref m25, .ref m26, .ref m27, .ref m28, .ref m29, .int v30, .ref m31, .ref m32, .ref m33, .int v34, .int v35, .int v36, .ref m37, .ref m38, .ref m39, .ref m40, .long v41])), (m17, .inl (k 0, 30, .inl f17)), (m20, .inl (k 0, 120, .inl f20))]) [1, 2, 0] rfl
      have hD9 := hD.sub (ws' := [(mo, .inr (12, [.int 0, .ref m1, .ref m2, .ref m3, .ref m4, .ref m5, .int v6, .int v7, .int v8, .int v9, .int v10, .long v11, .int v12, .int v13, .int v14, .int v15, .ref m16, .ref m17, .ref m18, .ref m19, .ref m20, .ref m21, .ref m22, .ref m23, .int v24, .ref m25, .ref m26, .ref m27, .ref m28, .ref m29, .int v30, .ref m31, .ref m32, .ref m33, .int v34, .int v35, .int v36, .ref m37, .ref m38, .ref m39, .ref m40, .long v41])), (m17, .inl (k 0, 30, .inl f17)), (m20, .inl (k 0, 120, .inl f20))]) [1, 2, 0] (by decide) rfl
      exact W.iret (v := (-2)) hx hb hr (fun tZ ht hW => ⟨⟨(-2), (0, f20), rfl, (show 0 ≤ 0 ∧ 0 ≤ 0 from by omega), by rw [ht]; exact hP9, va_K.moved hW.alike hK, hD9⟩, hS.F ht⟩) hS.2.2 dX12_tell_39
    · skip
      have zh_10 : ¬ r_6.toInt = 0 := z_ne h_10
      refine lv_iload_n hx hb dX12_tell_25 rfl (lv_at hl 3 rfl) ?_
      refine lv_i2l (v := p2.toInt64) hx hb dX12_tell_26 rfl ?_
      refine lv_lconst (v := 0) hx hb dX12_tell_27 (by decide) ?_
      refine lv_ldc2 (v := 999) hx hb hown (hts _ tw_7_188) dX12_tell_28 ?_
      have hPc := hP.sub (ws' := []) [] rfl
      have hDc := hD.sub (ws' := []) [] (by decide) rfl
      have hFc := va_free (wc := []) hD hS hA [] rfl
      refine va_calli (va_runS (As := [.long p2.toInt64, .long 0, .long 999]) (rest := []) ⟨hx, hb, hml, hown, hts⟩ (c_X12_in l D k p2.toInt64 0 999 H.size) (va_cwS 3 hts (gS tw_6_188 tw_6_189 tw_1_13 tw_6_190) rfl rfl rfl hdS_X12_in ⟨Nat.le_of_ble_eq_true rfl, Nat.le_of_ble_eq_true rfl⟩) (cz_S hK hPc hDc hN [.long p2.toInt64, .long 0, .long 999]) rfl rfl hl.1 rfl (lv_room (Nat.le_of_ble_eq_true rfl)) dX12_tell_31 ⟨Nat.le_of_ble_eq_true rfl, Nat.le_of_ble_eq_true rfl⟩) hS (fun q _ h => hFc q h) hFc (fun r_11 uZ tZ H1 locs ht hvm hw hB hz1 hk1 hS => ?_)
      obtain ⟨hP1, hK1, hD1⟩ := hB
      rw [ht] at hP1
      obtain ⟨hP, hD⟩ := va_join (wr := [(m20, .inl (k 0, 120, .inl f20)), (mo, .inr (12, [.int 0, .ref m1, .ref m2, .ref m3, .ref m4, .ref m5, .int v6, .int v7, .int v8, .int v9, .int v10, .long v11, .int v12, .int v13, .int v14, .int v15, .ref m16, .ref m17, .ref m18, .ref m19, .ref m20, .ref m21, .ref m22, .ref m23, .int v24, .ref m25, .ref m26, .ref m27, .ref m28, .ref m29, .int v30, .ref m31, .ref m32, .ref m33, .int v34, .int v35, .int v36, .ref m37, .ref m38, .ref m39, .ref m40, .long v41])), (m17, .inl (k 0, 30, .inl f17))]) (w1 := []) hP hD [] [0, 1, 2] rfl rfl (by decide) (by decide) hk1 hFc hP1 hD1
      clear hK1 hP1 hD1 hPc hDc hFc
      clear hk1 hz1 ht hvm
      have hP : va_P D vwCl [(m20, .inl (k 0, 120, .inl f20)), (mo, .inr (12, [.int 0, .ref m1, .ref m2, .ref m3, .ref m4, .ref m5, .int v6, .int v7, .int v8, .int v9, .int v10, .long v11, .int v12, .int v13, .int v14, .int v15, .ref m16, .ref m17, .ref m18, .ref m19, .ref m20, .ref m21, .ref m22, .ref m23, .int v24, .ref m25, .ref m26, .ref m27, .ref m28, .ref m29, .int v30, .ref m31, .ref m32, .ref m33, .int v34, .int v35, .int v36, .ref m37, .ref m38, .ref m39, .ref m40, .long v41])), (m17, .inl (k 0, 30, .inl f17))] H1 := hP
      have hD : va_D A [(m20, .inl (k 0, 120, .inl f20)), (mo, .inr (12, [.int 0, .ref m1, .ref m2, .ref m3, .ref m4, .ref m5, .int v6, .int v7, .int v8, .int v9, .int v10, .long v11, .int v12, .int v13, .int v14, .int v15, .ref m16, .ref m17, .ref m18, .ref m19, .ref m20, .ref m21, .ref m22, .ref m23, .int v24, .ref m25, .ref m26, .ref m27, .ref m28, .ref m29, .int v30, .ref m31, .ref m32, .ref m33, .int v34, .int v35, .int v36, .ref m37, .ref m38, .ref m39, .ref m40, .long v41])), (m17, .inl (k 0, 30, .inl f17))] := hD
      generalize H1 = H at hP hS ⊢
      have hw_12 : (0 ≤ r_11.toInt ∧ r_11.toInt ≤ 1) ∧ ((r_11.toInt = 1 ∧ 0 ≤ p2.toInt64.toInt ∧ p2.toInt64.toInt ≤ 999) ∨ (r_11.toInt = 0 ∧ (p2.toInt64.toInt < 0 ∨ 999 < p2.toInt64.toInt))) := hw
      obtain ⟨hw_13, hw_14⟩ := hw_12
      clear hw
      simp only [Int32.toInt_toInt64] at hw_13 hw_14
      refine lv_if_ne (tgt := 40) hx hb dX12_tell_34 (by decide) (fun h_15 => ?_) (fun h_15 => ?_)
      · skip
        have zh_15 : ¬ r_11.toInt = 0 := z_ne h_15
        refine lv_aload_n hx hb dX12_tell_40 rfl (lv_at hl 0 rfl) ?_
        refine va_get (D := D) (ci := 12) (v := .ref m17) (C := RX12) (T := TX12) (N := 42) hx hb hts iT_X12 hown hK hP 1 rfl rfl 17 (by decide) (hts _ tw_6_70) (fun _ h9 => h9) rfl dX12_tell_41 ?_
        refine lv_iconst (v := 5) hx hb dX12_tell_44 (by decide) ?_
        refine va_iald hx hb hK hP 2 0 rfl rfl (z_in (by decide) (by decide)) dX12_tell_45 ?_
        refine lv_topi (fun x_16 ex_16 => ?_)
        have zx_16r5 : 0 ≤ x_16.toInt ∧ x_16.toInt ≤ 40 := by rw [ex_16]; exact PR.ld hp_f17_5 (by decide) (by decide) (by decide)
        refine lv_if_le (tgt := 52) hx hb dX12_tell_46 (by decide) (fun h_17 => ?_) (fun h_17 => ?_)
        · skip
          have zh_17 : x_16.toInt ≤ 0 := z_le h_17
          refine lv_aload_n hx hb dX12_tell_52 rfl (lv_at hl 0 rfl) ?_
          refine va_get (D := D) (ci := 12) (v := .ref m20) (C := RX12) (T := TX12) (N := 42) hx hb hts iT_X12 hown hK hP 1 rfl rfl 20 (by decide) (hts _ tw_6_73) (fun _ h9 => h9) rfl dX12_tell_53 ?_
          refine lv_iconst (v := 4) hx hb dX12_tell_56 (by decide) ?_
          refine lv_iload_n hx hb dX12_tell_57 rfl (lv_at hl 1 rfl) ?_
          refine lv_imul hx hb dX12_tell_58 ?_
          refine lv_topi (fun x_18 ex_18 => ?_)
          have zx_18 : x_18.toInt = 4 * p0.toInt := by rw [ex_18]; exact z_mul rfl rfl (by omega) (by omega)
          refine lv_iload_n hx hb dX12_tell_59 rfl (lv_at hl 2 rfl) ?_
          refine lv_iadd hx hb dX12_tell_60 ?_
          refine lv_topi (fun x_19 ex_19 => ?_)
          have zx_19 : x_19.toInt = x_18.toInt + p1.toInt := by rw [ex_19]; exact z_add rfl rfl (by omega) (by omega)
          refine va_iald hx hb hK hP 0 0 rfl rfl (z_in (by omega) (by omega)) dX12_tell_61 ?_
          refine lv_topi (fun x_20 ex_20 => ?_)
          refine lv_istore (lv' := [(4, .int x_20), (0, .ref mo), (1, .int p0), (2, .int p1), (3, .int p2)]) hx hb dX12_tell_62 hl (by decide) rfl (fun ls hl => ?_)
          refine lv_aload_n hx hb dX12_tell_64 rfl (lv_at hl 1 rfl) ?_
          refine va_get (D := D) (ci := 12) (v := .ref m20) (C := RX12) (T := TX12) (N := 42) hx hb hts iT_X12 hown hK hP 1 rfl rfl 20 (by decide) (hts _ tw_6_73) (fun _ h9 => h9) rfl dX12_tell_65 ?_
          refine lv_iconst (v := 4) hx hb dX12_tell_68 (by decide) ?_
          refine lv_iload_n hx hb dX12_tell_69 rfl (lv_at hl 2 rfl) ?_
          refine lv_imul hx hb dX12_tell_70 ?_
          refine lv_topi (fun x_21 ex_21 => ?_)
          obtain rfl : x_18 = x_21 := ex_18.trans ex_21.symm
          refine lv_iload_n hx hb dX12_tell_71 rfl (lv_at hl 3 rfl) ?_
          refine lv_iadd hx hb dX12_tell_72 ?_
          refine lv_topi (fun x_22 ex_22 => ?_)
          obtain rfl : x_19 = x_22 := ex_19.trans ex_22.symm
          refine lv_iload_n hx hb dX12_tell_73 rfl (lv_at hl 4 rfl) ?_
          refine va_iast hx hb hK hP hD hS 0 0 rfl rfl (z_in (by omega) (by omega)) dX12_tell_74 (fun H locs hP hD hS => ?_)
          obtain ⟨g_23, eg_23⟩ : ∃ z : Nat → Int32, upd f20 x_19.toNatClampNeg p2 = z := ⟨_, rfl⟩
          have hP : va_P D vwCl [(m20, .inl (k 0, 120, .inl (upd f20 x_19.toNatClampNeg p2))), (mo, .inr (12, [.int 0, .ref m1, .ref m2, .ref m3, .ref m4, .ref m5, .int v6, .int v7, .int v8, .int v9, .int v10, .long v11, .int v12, .int v13, .int v14, .int v15, .ref m16, .ref m17, .ref m18, .ref m19, .ref m20, .ref m21, .ref m22, .ref m23, .int v24, .ref m25, .ref m26, .ref m27, .ref m28, .ref m29, .int v30, .ref m31, .ref m32, .ref m33, .int v34, .int v35, .int v36, .ref m37, .ref m38, .ref m39, .ref m40, .long v41])), (m17, .inl (k 0, 30, .inl f17))] H := hP
          have hD : va_D A [(m20, .inl (k 0, 120, .inl (upd f20 x_19.toNatClampNeg p2))), (mo, .inr (12, [.int 0, .ref m1, .ref m2, .ref m3, .ref m4, .ref m5, .int v6, .int v7, .int v8, .int v9, .int v10, .long v11, .int v12, .int v13, .int v14, .int v15, .ref m16, .ref m17, .ref m18, .ref m19, .ref m20, .ref m21, .ref m22, .ref m23, .int v24, .ref m25, .ref m26, .ref m27, .ref m28, .ref m29, .int v30, .ref m31, .ref m32, .ref m33, .int v34, .int v35, .int v36, .ref m37, .ref m38, .ref m39, .ref m40, .long v41])), (m17, .inl (k 0, 30, .inl f17))] := hD
          rw [eg_23] at hP hD
          have hp_24 : PR 120 4 0 0 999 g_23 := by rw [← eg_23]; exact PR.put (PR.wk hp_f20_0 (by decide) (by decide)) ⟨by omega, by omega⟩
          refine lv_iload hx hb dX12_tell_75 (lv_at hl 0 rfl) ?_
          have hP9 := hP.sub (ws' := [(mo, .inr (12, [.int 0, .ref m1, .ref m2, .ref m3, .ref m4, .ref m5, .int v6, .int v7, .int v8, .int v9, .int v10, .long v11, .int v12, .int v13, .int v14, .int v15, .ref m16, .ref m17, .ref m18, .ref m19, .ref m20, .ref m21, .ref m22, .ref m23, .int v24, .ref m25, .ref m26, .ref m27, .ref m28, .ref m29, .int v30, .ref m31, .ref m32, .ref m33, .int v34, .int v35, .int v36, .ref m37, .ref m38, .ref m39, .ref m40, .long v41])), (m17, .inl (k 0, 30, .inl f17)), (m20, .inl (k 0, 120, .inl g_23))]) [1, 2, 0] rfl
          have hD9 := hD.sub (ws' := [(mo, .inr (12, [.int 0, .ref m1, .ref m2, .ref m3, .ref m4, .ref m5, .int v6, .int v7, .int v8, .int v9, .int v10, .long v11, .int v12, .int v13, .int v14, .int v15, .ref m16, .ref m17, .ref m18, .ref m19, .ref m20, .ref m21, .ref m22, .ref m23, .int v24, .ref m25, .ref m26, .ref m27, .ref m28, .ref m29, .int v30, .ref m31, .ref m32, .ref m33, .int v34, .int v35, .int v36, .ref m37, .ref m38, .ref m39, .ref m40, .long v41])), (m17, .inl (k 0, 30, .inl f17)), (m20, .inl (k 0, 120, .inl g_23))]) [1, 2, 0] (by decide) rfl
          exact W.iret (v := x_20) hx hb hr (fun tZ ht hW => ⟨⟨x_20, (0, g_23), rfl, (show 0 ≤ 0 ∧ 0 ≤ 0 from by omega), by rw [ht]; exact hP9, va_K.moved hW.alike hK, hD9⟩, hS.F ht⟩) hS.2.2 dX12_tell_77
        · skip
          have zh_17 : 0 < x_16.toInt := z_nle h_17
          refine lv_bipush (v := (-5)) hx hb dX12_tell_49 (by decide) ?_
          have hP9 := hP.sub (ws' := [(mo, .inr (12, [.int 0, .ref m1, .ref m2, .ref m3, .ref m4, .ref m5, .int v6, .int v7, .int v8, .int v9, .int v10, .long v11, .int v12, .int v13, .int v14, .int v15, .ref m16, .ref m17, .ref m18, .ref m19, .ref m20, .ref m21, .ref m22, .ref m23, .int v24, .ref m25, .ref m26, .ref m27, .ref m28, .ref m29, .int v30, .ref m31, .ref m32, .ref m33, .int v34, .int v35, .int v36, .ref m37, .ref m38, .ref m39, .ref m40, .long v41])), (m17, .inl (k 0, 30, .inl f17)), (m20, .inl (k 0, 120, .inl f20))]) [1, 2, 0] rfl
          have hD9 := hD.sub (ws' := [(mo, .inr (12, [.int 0, .ref m1, .ref m2, .ref m3, .ref m4, .ref m5, .int v6, .int v7, .int v8, .int v9, .int v10, .long v11, .int v12, .int v13, .int v14, .int v15, .ref m16, .ref m17, .ref m18, .ref m19, .ref m20, .ref m21, .ref m22, .ref m23, .int v24, .ref m25, .ref m26, .ref m27, .ref m28, .ref m29, .int v30, .ref m31, .ref m32, .ref m33, .int v34, .int v35, .int v36, .ref m37, .ref m38, .ref m39, .ref m40, .long v41])), (m17, .inl (k 0, 30, .inl f17)), (m20, .inl (k 0, 120, .inl f20))]) [1, 2, 0] (by decide) rfl
          exact W.iret (v := (-5)) hx hb hr (fun tZ ht hW => ⟨⟨(-5), (0, f20), rfl, (show 0 ≤ 0 ∧ 0 ≤ 0 from by omega), by rw [ht]; exact hP9, va_K.moved hW.alike hK, hD9⟩, hS.F ht⟩) hS.2.2 dX12_tell_51
      · skip
        have zh_15 : r_11.toInt = 0 := z_eq h_15
        refine lv_bipush (v := (-2)) hx hb dX12_tell_37 (by decide) ?_
        have hP9 := hP.sub (ws' := [(mo, .inr (12, [.int 0, .ref m1, .ref m2, .ref m3, .ref m4, .ref m5, .int v6, .int v7, .int v8, .int v9, .int v10, .long v11, .int v12, .int v13, .int v14, .int v15, .ref m16, .ref m17, .ref m18, .ref m19, .ref m20, .ref m21, .ref m22, .ref m23, .int v24, .ref m25, .ref m26, .ref m27, .ref m28, .ref m29, .int v30, .ref m31, .ref m32, .ref m33, .int v34, .int v35, .int v36, .ref m37, .ref m38, .ref m39, .ref m40, .long v41])), (m17, .inl (k 0, 30, .inl f17)), (m20, .inl (k 0, 120, .inl f20))]) [1, 2, 0] rfl
        have hD9 := hD.sub (ws' := [(mo, .inr (12, [.int 0, .ref m1, .ref m2, .ref m3, .ref m4, .ref m5, .int v6, .int v7, .int v8, .int v9, .int v10, .long v11, .int v12, .int v13, .int v14, .int v15, .ref m16, .ref m17, .ref m18, .ref m19, .ref m20, .ref m21, .ref m22, .ref m23, .int v24, .ref m25, .ref m26, .ref m27, .ref m28, .ref m29, .int v30, .ref m31, .ref m32, .ref m33, .int v34, .int v35, .int v36, .ref m37, .ref m38, .ref m39, .ref m40, .long v41])), (m17, .inl (k 0, 30, .inl f17)), (m20, .inl (k 0, 120, .inl f20))]) [1, 2, 0] (by decide) rfl
        exact W.iret (v := (-2)) hx hb hr (fun tZ ht hW => ⟨⟨(-2), (0, f20), rfl, (show 0 ≤ 0 ∧ 0 ≤ 0 from by omega), by rw [ht]; exact hP9, va_K.moved hW.alike hK, hD9⟩, hS.F ht⟩) hS.2.2 dX12_tell_39
set_option maxHeartbeats 4000000 in
set_option maxRecDepth 100000 in
theorem c_X12_count (l : Launch) (D : va_G) (k : Nat → ClassId) (mo : Nat) (p0 : Int32) (v0 : Int32) (m1 : Nat) (m2 : Nat) (m3 : Nat) (m4 : Nat) (m5 : Nat) (v6 : Int32) (v7 : Int32) (v8 : Int32) (v9 : Int32) (v10 : Int32) (v11 : Int64) (v12 : Int32) (v13 : Int32) (v14 : Int32) (v15 : Int32) (m16 : Nat) (m17 : Nat) (m18 : Nat) (m19 : Nat) (m20 : Nat) (m21 : Nat) (m22 : Nat) (m23 : Nat) (v24 : Int32) (m25 : Nat) (m26 : Nat) (m27 : Nat) (m28 : Nat) (m29 : Nat) (v30 : Int32) (m31 : Nat) (m32 : Nat) (m33 : Nat) (v34 : Int32) (v35 : Int32) (v36 : Int32) (m37 : Nat) (m38 : Nat) (m39 : Nat) (m40 : Nat) (v41 : Int64) (f1 : Nat → Int32) (f16 : Nat → Int32) (f17 : Nat → Int32) (sz : Nat) (h_v6 : 0 ≤ v6.toInt ∧ v6.toInt ≤ 1000) (h_v24 : 0 ≤ v24.toInt ∧ v24.toInt ≤ 1023) (hp_f1_0 : PR 4 1 0 (-1) 3 f1) (hp_f17_0 : PR 30 6 0 0 8 f17) (hp_f17_1 : PR 30 6 1 0 10 f17) (hp_f17_2 : PR 30 6 2 0 4 f17) (hp_f17_3 : PR 30 6 3 0 6 f17) (hp_f17_4 : PR 30 6 4 0 2 f17) (hp_f17_5 : PR 30 6 5 0 40 f17) : Met l yX12_count (ww yX12_count cX12_count 4 (some .int)) ({ frames := 1, cells := 0, slots := 0, locals := 25 }) (Pre0 D k [(mo, .inr (12, [.int v0, .ref m1, .ref m2, .ref m3, .ref m4, .ref m5, .int v6, .int v7, .int v8, .int v9, .int v10, .long v11, .int v12, .int v13, .int v14, .int v15, .ref m16, .ref m17, .ref m18, .ref m19, .ref m20, .ref m21, .ref m22, .ref m23, .int v24, .ref m25, .ref m26, .ref m27, .ref m28, .ref m29, .int v30, .ref m31, .ref m32, .ref m33, .int v34, .int v35, .int v36, .ref m37, .ref m38, .ref m39, .ref m40, .long v41])), (m1, .inl (k 0, 4, .inl f1)), (m16, .inl (k 0, 5, .inl f16)), (m17, .inl (k 0, 30, .inl f17))] sz [.ref mo, .int p0]) (va_Qi (fun (r : Int32) (v0z : Int32) => (0 ≤ v0z.toInt ∧ v0z.toInt ≤ 0)) (fun (v0z : Int32) tZ => Bw D k (va_A [(mo, .inr (12, [.int v0, .ref m1, .ref m2, .ref m3, .ref m4, .ref m5, .int v6, .int v7, .int v8, .int v9, .int v10, .long v11, .int v12, .int v13, .int v14, .int v15, .ref m16, .ref m17, .ref m18, .ref m19, .ref m20, .ref m21, .ref m22, .ref m23, .int v24, .ref m25, .ref m26, .ref m27, .ref m28, .ref m29, .int v30, .ref m31, .ref m32, .ref m33, .int v34, .int v35, .int v36, .ref m37, .ref m38, .ref m39, .ref m40, .long v41])), (m1, .inl (k 0, 4, .inl f1)), (m16, .inl (k 0, 5, .inl f16)), (m17, .inl (k 0, 30, .inl f17))] sz) [(mo, .inr (12, [.int v0z, .ref m1, .ref m2, .ref m3, .ref m4, .ref m5, .int v6, .int v7, .int v8, .int v9, .int v10, .long v11, .int v12, .int v13, .int v14, .int v15, .ref m16, .ref m17, .ref m18, .ref m19, .ref m20, .ref m21, .ref m22, .ref m23, .int v24, .ref m25, .ref m26, .ref m27, .ref m28, .ref m29, .int v30, .ref m31, .ref m32, .ref m33, .int v34, .int v35, .int v36, .ref m37, .ref m38, .ref m39, .ref m40, .long v41])), (m1, .inl (k 0, 4, .inl f1)), (m16, .inl (k 0, 5, .inl f16)), (m17, .inl (k 0, 30, .inl f17))] tZ) (va_A [(mo, .inr (12, [.int v0, .ref m1, .ref m2, .ref m3, .ref m4, .ref m5, .int v6, .int v7, .int v8, .int v9, .int v10, .long v11, .int v12, .int v13, .int v14, .int v15, .ref m16, .ref m17, .ref m18, .ref m19, .ref m20, .ref m21, .ref m22, .ref m23, .int v24, .ref m25, .ref m26, .ref m27, .ref m28, .ref m29, .int v30, .ref m31, .ref m32, .ref m33, .int v34, .int v35, .int v36, .ref m37, .ref m38, .ref m39, .ref m40, .long v41])), (m1, .inl (k 0, 4, .inl f1)), (m16, .inl (k 0, 5, .inl f16)), (m17, .inl (k 0, 30, .inl f17))] sz)) 0 0 (va_A [(mo, .inr (12, [.int v0, .ref m1, .ref m2, .ref m3, .ref m4, .ref m5, .int v6, .int v7, .int v8, .int v9, .int v10, .long v11, .int v12, .int v13, .int v14, .int v15, .ref m16, .ref m17, .ref m18, .ref m19, .ref m20, .ref m21, .ref m22, .ref m23, .int v24, .ref m25, .ref m26, .ref m27, .ref m28, .ref m29, .int v30, .ref m31, .ref m32, .ref m33, .int v34, .int v35, .int v36, .ref m37, .ref m38, .ref m39, .ref m40, .long v41])), (m1, .inl (k 0, 4, .inl f1)), (m16, .inl (k 0, 5, .inl f16)), (m17, .inl (k 0, 30, .inl f17))] sz) := by
  refine Met.ofW (cc := cX12_count) (maxL := 4) (ret := (some .int)) (by decide +kernel) rfl ?_
  intro p e s m args below meth c s₁ B hml hv
  obtain ⟨rfl, hsz, hP, hK, hD0, hN⟩ := hv
  have hx := B.exec
  have hb := B.bytes
  have hr := B.returns
  have hts : ∀ w ∈ TT, w.before _ s = true := fun w h => atoms_spec (ws := ww yX12_count cX12_count 4 (some .int)) B.pre w (List.mem_cons_of_mem _ h)
  have hown : s.vm.findClass RX12 = some m.cls := findClass_of_methodNamed B.named
  have hlocks := B.notSynchronized
  subst hsz
  have hD := hD0.self (sz := s.heap.size)
  generalize hAe : va_A [(mo, .inr (12, [.int v0, .ref m1, .ref m2, .ref m3, .ref m4, .ref m5, .int v6, .int v7, .int v8, .int v9, .int v10, .long v11, .int v12, .int v13, .int v14, .int v15, .ref m16, .ref m17, .ref m18, .ref m19, .ref m20, .ref m21, .ref m22, .ref m23, .int v24, .ref m25, .ref m26, .ref m27, .ref m28, .ref m29, .int v30, .ref m31, .ref m32, .ref m33, .int v34, .int v35, .int v36, .ref m37, .ref m38, .ref m39, .ref m40, .long v41])), (m1, .inl (k 0, 4, .inl f1)), (m16, .inl (k 0, 5, .inl f16)), (m17, .inl (k 0, 30, .inl f17))] s.heap.size = A at hD ⊢
  have hA : ∀ q : Nat, s.heap.size ≤ q → A q := fun q h => by rw [← hAe]; exact Or.inr h
  have hS : va_S A s.heap s.heap [] := va_S.rf
  have hl := lv_entry ([.ref mo, .int p0]) (n := 4) (Nat.le_of_ble_eq_true rfl)
  rw [lg_entry_eq]
  generalize (lg_sl ([.ref mo, .int p0]) ++ List.replicate (4 - (lg_sl ([.ref mo, .int p0])).length) Slot.unset).toArray = ls at hl ⊢
  have hl : lv_has ls 4 [(0, .ref mo), (1, .int p0)] := hl
  refine lv_aload_n hx hb dX12_count_0 rfl (lv_at hl 0 rfl) ?_
  refine lv_iconst (v := 0) hx hb dX12_count_1 (by decide) ?_
  refine va_put (D := D) (ci := 12) (v := .int 0) (ty := tyX12 0) (C := RX12) (T := TX12) (N := 42) hx hb hts iT_X12 tyX12 tyX12_ok nmX12 hown hK hP hD hS 0 rfl rfl 0 (by decide) (hts _ tw_6_53) (fun _ h9 => h9) rfl (tyX12_ok 0 (by decide)) rfl rfl (Nat.le_of_ble_eq_true rfl) dX12_count_2 (fun H locs hP hD hS => ?_)
  have hP : va_P D vwCl [(mo, .inr (12, [.int 0, .ref m1, .ref m2, .ref m3, .ref m4, .ref m5, .int v6, .int v7, .int v8, .int v9, .int v10, .long v11, .int v12, .int v13, .int v14, .int v15, .ref m16, .ref m17, .ref m18, .ref m19, .ref m20, .ref m21, .ref m22, .ref m23, .int v24, .ref m25, .ref m26, .ref m27, .ref m28, .ref m29, .int v30, .ref m31, .ref m32, .ref m33, .int v34, .int v35, .int v36, .ref m37, .ref m38, .ref m39, .ref m40, .long v41])), (m1, .inl (k 0, 4, .inl f1)), (m16, .inl (k 0, 5, .inl f16)), (m17, .inl (k 0, 30, .inl f17))] H := hP
  have hD : va_D A [(mo, .inr (12, [.int 0, .ref m1, .ref m2, .ref m3, .ref m4, .ref m5, .int v6, .int v7, .int v8, .int v9, .int v10, .long v11, .int v12, .int v13, .int v14, .int v15, .ref m16, .ref m17, .ref m18, .ref m19, .ref m20, .ref m21, .ref m22, .ref m23, .int v24, .ref m25, .ref m26, .ref m27, .ref m28, .ref m29, .int v30, .ref m31, .ref m32, .ref m33, .int v34, .int v35, .int v36, .ref m37, .ref m38, .ref m39, .ref m40, .long v41])), (m1, .inl (k 0, 4, .inl f1)), (m16, .inl (k 0, 5, .inl f16)), (m17, .inl (k 0, 30, .inl f17))] := hD
  refine lv_iload_n hx hb dX12_count_5 rfl (lv_at hl 1 rfl) ?_
  refine lv_i2l (v := p0.toInt64) hx hb dX12_count_6 rfl ?_
  refine lv_lconst (v := 0) hx hb dX12_count_7 (by decide) ?_
  refine lv_ldc2 (v := 5) hx hb hown (hts _ tw_9_15) dX12_count_8 ?_
  have hPc := hP.sub (ws' := []) [] rfl
  have hDc := hD.sub (ws' := []) [] (by decide) rfl
  have hFc := va_free (wc := []) hD hS hA [] rfl
  refine va_calli (va_runS (As := [.long p0.toInt64, .long 0, .long 5]) (rest := []) ⟨hx, hb, hml, hown, hts⟩ (c_X12_in l D k p0.toInt64 0 5 H.size) (va_cwS 3 hts (gS tw_6_188 tw_6_189 tw_1_13 tw_6_190) rfl rfl rfl hdS_X12_in ⟨Nat.le_of_ble_eq_true rfl, Nat.le_of_ble_eq_true rfl⟩) (cz_S hK hPc hDc hN [.long p0.toInt64, .long 0, .long 5]) rfl rfl hl.1 rfl (lv_room (Nat.le_of_ble_eq_true rfl)) dX12_count_11 ⟨Nat.le_of_ble_eq_true rfl, Nat.le_of_ble_eq_true rfl⟩) hS (fun q _ h => hFc q h) hFc (fun r_1 uZ tZ H1 locs ht hvm hw hB hz1 hk1 hS => ?_)
  obtain ⟨hP1, hK1, hD1⟩ := hB
  rw [ht] at hP1
  obtain ⟨hP, hD⟩ := va_join (wr := [(mo, .inr (12, [.int 0, .ref m1, .ref m2, .ref m3, .ref m4, .ref m5, .int v6, .int v7, .int v8, .int v9, .int v10, .long v11, .int v12, .int v13, .int v14, .int v15, .ref m16, .ref m17, .ref m18, .ref m19, .ref m20, .ref m21, .ref m22, .ref m23, .int v24, .ref m25, .ref m26, .ref m27, .ref m28, .ref m29, .int v30, .ref m31, .ref m32, .ref m33, .int v34, .int v35, .int v36, .ref m37, .ref m38, .ref m39, .ref m40, .long v41])), (m1, .inl (k 0, 4, .inl f1)), (m16, .inl (k 0, 5, .inl f16)), (m17, .inl (k 0, 30, .inl f17))]) (w1 := []) hP hD [] [0, 1, 2, 3] rfl rfl (by decide) (by decide) hk1 hFc hP1 hD1
  clear hK1 hP1 hD1 hPc hDc hFc
  clear hk1 hz1 ht hvm
  have hP : va_P D vwCl [(mo, .inr (12, [.int 0, .ref m1, .ref m2, .ref m3, .ref m4, .ref m5, .int v6, .int v7, .int v8, .int v9, .int v10, .long v11, .int v12, .int v13, .int v14, .int v15, .ref m16, .ref m17, .ref m18, .ref m19, .ref m20, .ref m21, .ref m22, .ref m23, .int v24, .ref m25, .ref m26, .ref m27, .ref m28, .ref m29, .int v30, .ref m31, .ref m32, .ref m33, .int v34, .int v35, .int v36, .ref m37, .ref m38, .ref m39, .ref m40, .long v41])), (m1, .inl (k 0, 4, .inl f1)), (m16, .inl (k 0, 5, .inl f16)), (m17, .inl (k 0, 30, .inl f17))] H1 := hP
  have hD : va_D A [(mo, .inr (12, [.int 0, .ref m1, .ref m2, .ref m3, .ref m4, .ref m5, .int v6, .int v7, .int v8, .int v9, .int v10, .long v11, .int v12, .int v13, .int v14, .int v15, .ref m16, .ref m17, .ref m18, .ref m19, .ref m20, .ref m21, .ref m22, .ref m23, .int v24, .ref m25, .ref m26, .ref m27, .ref m28, .ref m29, .int v30, .ref m31, .ref m32, .ref m33, .int v34, .int v35, .int v36, .ref m37, .ref m38, .ref m39, .ref m40, .long v41])), (m1, .inl (k 0, 4, .inl f1)), (m16, .inl (k 0, 5, .inl f16)), (m17, .inl (k 0, 30, .inl f17))] := hD
  generalize H1 = H at hP hS ⊢
  have hw_2 : (0 ≤ r_1.toInt ∧ r_1.toInt ≤ 1) ∧ ((r_1.toInt = 1 ∧ 0 ≤ p0.toInt64.toInt ∧ p0.toInt64.toInt ≤ 5) ∨ (r_1.toInt = 0 ∧ (p0.toInt64.toInt < 0 ∨ 5 < p0.toInt64.toInt))) := hw
  obtain ⟨hw_3, hw_4⟩ := hw_2
  clear hw
  simp only [Int32.toInt_toInt64] at hw_3 hw_4
  refine lv_if_eq (tgt := 24) hx hb dX12_count_14 (by decide) (fun h_5 => ?_) (fun h_5 => ?_)
  · skip
    have zh_5 : r_1.toInt = 0 := z_eq h_5
    refine lv_iconst (v := 0) hx hb dX12_count_24 (by decide) ?_
    refine lv_istore_n (lv' := [(2, .int 0), (0, .ref mo), (1, .int p0)]) hx hb dX12_count_25 rfl hl (by decide) rfl (fun ls hl => ?_)
    refine lv_iload_n hx hb dX12_count_26 rfl (lv_at hl 2 rfl) ?_
    by_cases h_6 : p0 = 6
    · skip
      refine lv_tableIn (off := 25) (tgt := 52) hx hb dX12_count_27 (by rw [h_6]; decide) (by rw [h_6]; decide) (by rw [h_6]; decide) (by decide) ?_
      have zh_6 : p0.toInt = 6 := z_eq h_6
      refine lv_aload_n hx hb dX12_count_52 rfl (lv_at hl 1 rfl) ?_
      refine va_get (D := D) (ci := 12) (v := .ref m16) (C := RX12) (T := TX12) (N := 42) hx hb hts iT_X12 hown hK hP 0 rfl rfl 16 (by decide) (hts _ tw_6_69) (fun _ h9 => h9) rfl dX12_count_53 ?_
      refine lv_iconst (v := 0) hx hb dX12_count_56 (by decide) ?_
      refine va_iald hx hb hK hP 2 0 rfl rfl (z_in (by decide) (by decide)) dX12_count_57 ?_
      refine lv_topi (fun x_7 ex_7 => ?_)
      have hP9 := hP.sub (ws' := [(mo, .inr (12, [.int 0, .ref m1, .ref m2, .ref m3, .ref m4, .ref m5, .int v6, .int v7, .int v8, .int v9, .int v10, .long v11, .int v12, .int v13, .int v14, .int v15, .ref m16, .ref m17, .ref m18, .ref m19, .ref m20, .ref m21, .ref m22, .ref m23, .int v24, .ref m25, .ref m26, .ref m27, .ref m28, .ref m29, .int v30, .ref m31, .ref m32, .ref m33, .int v34, .int v35, .int v36, .ref m37, .ref m38, .ref m39, .ref m40, .long v41])), (m1, .inl (k 0, 4, .inl f1)), (m16, .inl (k 0, 5, .inl f16)), (m17, .inl (k 0, 30, .inl f17))]) [0, 1, 2, 3] rfl
      have hD9 := hD.sub (ws' := [(mo, .inr (12, [.int 0, .ref m1, .ref m2, .ref m3, .ref m4, .ref m5, .int v6, .int v7, .int v8, .int v9, .int v10, .long v11, .int v12, .int v13, .int v14, .int v15, .ref m16, .ref m17, .ref m18, .ref m19, .ref m20, .ref m21, .ref m22, .ref m23, .int v24, .ref m25, .ref m26, .ref m27, .ref m28, .ref m29, .int v30, .ref m31, .ref m32, .ref m33, .int v34, .int v35, .int v36, .ref m37, .ref m38, .ref m39, .ref m40, .long v41])), (m1, .inl (k 0, 4, .inl f1)), (m16, .inl (k 0, 5, .inl f16)), (m17, .inl (k 0, 30, .inl f17))]) [0, 1, 2, 3] (by decide) rfl
      exact W.iret (v := x_7) hx hb hr (fun tZ ht hW => ⟨⟨x_7, 0, rfl, (show 0 ≤ 0 ∧ 0 ≤ 0 from by omega), by rw [ht]; exact hP9, va_K.moved hW.alike hK, hD9⟩, hS.F ht⟩) hS.2.2 dX12_count_58
    have zh_6 : ¬ p0.toInt = 6 := z_ne h_6
    by_cases h_8 : p0 = 7
    · skip
      refine lv_tableIn (off := 32) (tgt := 59) hx hb dX12_count_27 (by rw [h_8]; decide) (by rw [h_8]; decide) (by rw [h_8]; decide) (by decide) ?_
      have zh_8 : p0.toInt = 7 := z_eq h_8
      refine lv_aload_n hx hb dX12_count_59 rfl (lv_at hl 1 rfl) ?_
      refine va_get (D := D) (ci := 12) (v := .int v6) (C := RX12) (T := TX12) (N := 42) hx hb hts iT_X12 hown hK hP 0 rfl rfl 6 (by decide) (hts _ tw_6_59) (fun _ h9 => h9) rfl dX12_count_60 ?_
      have hP9 := hP.sub (ws' := [(mo, .inr (12, [.int 0, .ref m1, .ref m2, .ref m3, .ref m4, .ref m5, .int v6, .int v7, .int v8, .int v9, .int v10, .long v11, .int v12, .int v13, .int v14, .int v15, .ref m16, .ref m17, .ref m18, .ref m19, .ref m20, .ref m21, .ref m22, .ref m23, .int v24, .ref m25, .ref m26, .ref m27, .ref m28, .ref m29, .int v30, .ref m31, .ref m32, .ref m33, .int v34, .int v35, .int v36, .ref m37, .ref m38, .ref m39, .ref m40, .long v41])), (m1, .inl (k 0, 4, .inl f1)), (m16, .inl (k 0, 5, .inl f16)), (m17, .inl (k 0, 30, .inl f17))]) [0, 1, 2, 3] rfl
      have hD9 := hD.sub (ws' := [(mo, .inr (12, [.int 0, .ref m1, .ref m2, .ref m3, .ref m4, .ref m5, .int v6, .int v7, .int v8, .int v9, .int v10, .long v11, .int v12, .int v13, .int v14, .int v15, .ref m16, .ref m17, .ref m18, .ref m19, .ref m20, .ref m21, .ref m22, .ref m23, .int v24, .ref m25, .ref m26, .ref m27, .ref m28, .ref m29, .int v30, .ref m31, .ref m32, .ref m33, .int v34, .int v35, .int v36, .ref m37, .ref m38, .ref m39, .ref m40, .long v41])), (m1, .inl (k 0, 4, .inl f1)), (m16, .inl (k 0, 5, .inl f16)), (m17, .inl (k 0, 30, .inl f17))]) [0, 1, 2, 3] (by decide) rfl
      exact W.iret (v := v6) hx hb hr (fun tZ ht hW => ⟨⟨v6, 0, rfl, (show 0 ≤ 0 ∧ 0 ≤ 0 from by omega), by rw [ht]; exact hP9, va_K.moved hW.alike hK, hD9⟩, hS.F ht⟩) hS.2.2 dX12_count_63
    have zh_8 : ¬ p0.toInt = 7 := z_ne h_8
    by_cases h_9 : p0 = 8
    · skip
      refine lv_tableIn (off := 37) (tgt := 64) hx hb dX12_count_27 (by rw [h_9]; decide) (by rw [h_9]; decide) (by rw [h_9]; decide) (by decide) ?_
      have zh_9 : p0.toInt = 8 := z_eq h_9
      refine lv_iconst (v := 0) hx hb dX12_count_64 (by decide) ?_
      refine lv_istore_n (lv' := [(3, .int 0), (2, .int 0), (0, .ref mo), (1, .int p0)]) hx hb dX12_count_65 rfl hl (by decide) rfl (fun ls hl => ?_)
      refine loop_r (Wg := fun H locs ls => W p l e _ s m _ below meth c H locs _ _ _ (F0 m 66 ls [])) (fun n9 H locs ls => ∃ (L66l2 : Int32) (L66l3 : Int32), n9 = (4 - L66l3.toInt).toNat ∧ (0 ≤ L66l3.toInt ∧ L66l3.toInt ≤ 4) ∧ va_P D vwCl [(mo, .inr (12, [.int 0, .ref m1, .ref m2, .ref m3, .ref m4, .ref m5, .int v6, .int v7, .int v8, .int v9, .int v10, .long v11, .int v12, .int v13, .int v14, .int v15, .ref m16, .ref m17, .ref m18, .ref m19, .ref m20, .ref m21, .ref m22, .ref m23, .int v24, .ref m25, .ref m26, .ref m27, .ref m28, .ref m29, .int v30, .ref m31, .ref m32, .ref m33, .int v34, .int v35, .int v36, .ref m37, .ref m38, .ref m39, .ref m40, .long v41])), (m1, .inl (k 0, 4, .inl f1)), (m16, .inl (k 0, 5, .inl f16)), (m17, .inl (k 0, 30, .inl f17))] H ∧ va_D A [(mo, .inr (12, [.int 0, .ref m1, .ref m2, .ref m3, .ref m4, .ref m5, .int v6, .int v7, .int v8, .int v9, .int v10, .long v11, .int v12, .int v13, .int v14, .int v15, .ref m16, .ref m17, .ref m18, .ref m19, .ref m20, .ref m21, .ref m22, .ref m23, .int v24, .ref m25, .ref m26, .ref m27, .ref m28, .ref m29, .int v30, .ref m31, .ref m32, .ref m33, .int v34, .int v35, .int v36, .ref m37, .ref m38, .ref m39, .ref m40, .long v41])), (m1, .inl (k 0, 4, .inl f1)), (m16, .inl (k 0, 5, .inl f16)), (m17, .inl (k 0, 30, .inl f17))] ∧ va_S A s.heap H locs ∧ lv_has ls 4 [(0, .ref mo), (1, .int p0), (2, .int L66l2), (3, .int L66l3)]) (fun n9 H locs ls hI ih_10 => ?_) _ _ _ _ ⟨0, 0, rfl, (show 0 ≤ 0 ∧ 0 ≤ 4 from by omega), hP.sub (ws' := [(mo, .inr (12, [.int 0, .ref m1, .ref m2, .ref m3, .ref m4, .ref m5, .int v6, .int v7, .int v8, .int v9, .int v10, .long v11, .int v12, .int v13, .int v14, .int v15, .ref m16, .ref m17, .ref m18, .ref m19, .ref m20, .ref m21, .ref m22, .ref m23, .int v24, .ref m25, .ref m26, .ref m27, .ref m28, .ref m29, .int v30, .ref m31, .ref m32, .ref m33, .int v34, .int v35, .int v36, .ref m37, .ref m38, .ref m39, .ref m40, .long v41])), (m1, .inl (k 0, 4, .inl f1)), (m16, .inl (k 0, 5, .inl f16)), (m17, .inl (k 0, 30, .inl f17))]) [0, 1, 2, 3] rfl, hD.sub (ws' := [(mo, .inr (12, [.int 0, .ref m1, .ref m2, .ref m3, .ref m4, .ref m5, .int v6, .int v7, .int v8, .int v9, .int v10, .long v11, .int v12, .int v13, .int v14, .int v15, .ref m16, .ref m17, .ref m18, .ref m19, .ref m20, .ref m21, .ref m22, .ref m23, .int v24, .ref m25, .ref m26, .ref m27, .ref m28, .ref m29, .int v30, .ref m31, .ref m32, .ref m33, .int v34, .int v35, .int v36, .ref m37, .ref m38, .ref m39, .ref m40, .long v41])), (m1, .inl (k 0, 4, .inl f1)), (m16, .inl (k 0, 5, .inl f16)), (m17, .inl (k 0, 30, .inl f17))]) [0, 1, 2, 3] (by decide) rfl, hS, lv_sub hl [2, 3, 1, 0] rfl⟩
      clear hP hD hS hl
      obtain ⟨L66l2, L66l3, en_11, zL66l3, hP, hD, hS, hl⟩ := hI
      refine lv_iload_n hx hb dX12_count_66 rfl (lv_at hl 3 rfl) ?_
      refine lv_iconst (v := 4) hx hb dX12_count_67 (by decide) ?_
      refine lv_icmp_ge (tgt := 95) hx hb dX12_count_68 (by decide) (fun h_12 => ?_) (fun h_12 => ?_)
      · skip
        have zh_12 : 4 ≤ L66l3.toInt := z_le h_12
        refine lv_iload_n hx hb dX12_count_95 rfl (lv_at hl 2 rfl) ?_
        have hP9 := hP.sub (ws' := [(mo, .inr (12, [.int 0, .ref m1, .ref m2, .ref m3, .ref m4, .ref m5, .int v6, .int v7, .int v8, .int v9, .int v10, .long v11, .int v12, .int v13, .int v14, .int v15, .ref m16, .ref m17, .ref m18, .ref m19, .ref m20, .ref m21, .ref m22, .ref m23, .int v24, .ref m25, .ref m26, .ref m27, .ref m28, .ref m29, .int v30, .ref m31, .ref m32, .ref m33, .int v34, .int v35, .int v36, .ref m37, .ref m38, .ref m39, .ref m40, .long v41])), (m1, .inl (k 0, 4, .inl f1)), (m16, .inl (k 0, 5, .inl f16)), (m17, .inl (k 0, 30, .inl f17))]) [0, 1, 2, 3] rfl
        have hD9 := hD.sub (ws' := [(mo, .inr (12, [.int 0, .ref m1, .ref m2, .ref m3, .ref m4, .ref m5, .int v6, .int v7, .int v8, .int v9, .int v10, .long v11, .int v12, .int v13, .int v14, .int v15, .ref m16, .ref m17, .ref m18, .ref m19, .ref m20, .ref m21, .ref m22, .ref m23, .int v24, .ref m25, .ref m26, .ref m27, .ref m28, .ref m29, .int v30, .ref m31, .ref m32, .ref m33, .int v34, .int v35, .int v36, .ref m37, .ref m38, .ref m39, .ref m40, .long v41])), (m1, .inl (k 0, 4, .inl f1)), (m16, .inl (k 0, 5, .inl f16)), (m17, .inl (k 0, 30, .inl f17))]) [0, 1, 2, 3] (by decide) rfl
        exact W.iret (v := L66l2) hx hb hr (fun tZ ht hW => ⟨⟨L66l2, 0, rfl, (show 0 ≤ 0 ∧ 0 ≤ 0 from by omega), by rw [ht]; exact hP9, va_K.moved hW.alike hK, hD9⟩, hS.F ht⟩) hS.2.2 dX12_count_96
      · skip
        have zh_12 : L66l3.toInt < 4 := z_nle h_12
        refine lv_iload_n hx hb dX12_count_71 rfl (lv_at hl 2 rfl) ?_
        refine lv_aload_n hx hb dX12_count_72 rfl (lv_at hl 0 rfl) ?_
        refine va_get (D := D) (ci := 12) (v := .ref m1) (C := RX12) (T := TX12) (N := 42) hx hb hts iT_X12 hown hK hP 0 rfl rfl 1 (by decide) (hts _ tw_6_54) (fun _ h9 => h9) rfl dX12_count_73 ?_
        refine lv_iload_n hx hb dX12_count_76 rfl (lv_at hl 3 rfl) ?_
        refine va_iald hx hb hK hP 1 0 rfl rfl (z_in (by omega) (by omega)) dX12_count_77 ?_
        refine lv_topi (fun x_13 ex_13 => ?_)
        have zx_13r0 : (-1) ≤ x_13.toInt ∧ x_13.toInt ≤ 3 := by rw [ex_13]; exact PR.ld hp_f1_0 (by omega) (by omega) (by omega)
        refine lv_iconst (v := (-1)) hx hb dX12_count_78 (by decide) ?_
        refine lv_icmp_ne (tgt := 86) hx hb dX12_count_79 (by decide) (fun h_14 => ?_) (fun h_14 => ?_)
        · skip
          have zh_14 : ¬ x_13.toInt = (-1) := z_ne h_14
          refine lv_iconst (v := 1) hx hb dX12_count_86 (by decide) ?_
          refine lv_iadd hx hb dX12_count_87 ?_
          refine lv_topi (fun x_15 ex_15 => ?_)
          have zrL66l2 := z_rng L66l2
          refine lv_istore_n (lv' := [(2, .int x_15), (0, .ref mo), (1, .int p0), (3, .int L66l3)]) hx hb dX12_count_88 rfl hl (by decide) rfl (fun ls hl => ?_)
          obtain ⟨x_16, ex_16⟩ : ∃ y : Int32, y = L66l3 + 1 := ⟨_, rfl⟩
          have zx_16 : x_16.toInt = L66l3.toInt + 1 := by rw [ex_16]; exact z_add rfl rfl (by omega) (by omega)
          refine lv_iinc (v := x_16) (lv' := [(3, .int x_16), (2, .int x_15), (0, .ref mo), (1, .int p0)]) hx hb dX12_count_89 hl (k := 3) rfl (by rw [ex_16]; rfl) (by decide) rfl (fun ls hl => ?_)
          refine lv_goto (tgt := 66) hx hb dX12_count_92 (by decide) ?_
          exact ih_10 _ _ _ _ (by omega) ⟨x_15, x_16, rfl, (show 0 ≤ x_16.toInt ∧ x_16.toInt ≤ 4 from by omega), hP.sub (ws' := [(mo, .inr (12, [.int 0, .ref m1, .ref m2, .ref m3, .ref m4, .ref m5, .int v6, .int v7, .int v8, .int v9, .int v10, .long v11, .int v12, .int v13, .int v14, .int v15, .ref m16, .ref m17, .ref m18, .ref m19, .ref m20, .ref m21, .ref m22, .ref m23, .int v24, .ref m25, .ref m26, .ref m27, .ref m28, .ref m29, .int v30, .ref m31, .ref m32, .ref m33, .int v34, .int v35, .int v36, .ref m37, .ref m38, .ref m39, .ref m40, .long v41])), (m1, .inl (k 0, 4, .inl f1)), (m16, .inl (k 0, 5, .inl f16)), (m17, .inl (k 0, 30, .inl f17))]) [0, 1, 2, 3] rfl, hD.sub (ws' := [(mo, .inr (12, [.int 0, .ref m1, .ref m2, .ref m3, .ref m4, .ref m5, .int v6, .int v7, .int v8, .int v9, .int v10, .long v11, .int v12, .int v13, .int v14, .int v15, .ref m16, .ref m17, .ref m18, .ref m19, .ref m20, .ref m21, .ref m22, .ref m23, .int v24, .ref m25, .ref m26, .ref m27, .ref m28, .ref m29, .int v30, .ref m31, .ref m32, .ref m33, .int v34, .int v35, .int v36, .ref m37, .ref m38, .ref m39, .ref m40, .long v41])), (m1, .inl (k 0, 4, .inl f1)), (m16, .inl (k 0, 5, .inl f16)), (m17, .inl (k 0, 30, .inl f17))]) [0, 1, 2, 3] (by decide) rfl, hS, lv_sub hl [2, 3, 1, 0] rfl⟩
        · skip
          have zh_14 : x_13.toInt = (-1) := z_eq h_14
          refine lv_iconst (v := 0) hx hb dX12_count_82 (by decide) ?_
          refine lv_goto (tgt := 87) hx hb dX12_count_83 (by decide) ?_
          refine lv_iadd hx hb dX12_count_87 ?_
          refine lv_topi (fun x_17 ex_17 => ?_)
          have zrL66l2 := z_rng L66l2
          have zx_17 : x_17.toInt = L66l2.toInt + 0 := by rw [ex_17]; exact z_add rfl rfl (by omega) (by omega)
          refine lv_istore_n (lv' := [(2, .int x_17), (0, .ref mo), (1, .int p0), (3, .int L66l3)]) hx hb dX12_count_88 rfl hl (by decide) rfl (fun ls hl => ?_)
          obtain ⟨x_18, ex_18⟩ : ∃ y : Int32, y = L66l3 + 1 := ⟨_, rfl⟩
          have zx_18 : x_18.toInt = L66l3.toInt + 1 := by rw [ex_18]; exact z_add rfl rfl (by omega) (by omega)
          refine lv_iinc (v := x_18) (lv' := [(3, .int x_18), (2, .int x_17), (0, .ref mo), (1, .int p0)]) hx hb dX12_count_89 hl (k := 3) rfl (by rw [ex_18]; rfl) (by decide) rfl (fun ls hl => ?_)
          refine lv_goto (tgt := 66) hx hb dX12_count_92 (by decide) ?_
          exact ih_10 _ _ _ _ (by omega) ⟨x_17, x_18, rfl, (show 0 ≤ x_18.toInt ∧ x_18.toInt ≤ 4 from by omega), hP.sub (ws' := [(mo, .inr (12, [.int 0, .ref m1, .ref m2, .ref m3, .ref m4, .ref m5, .int v6, .int v7, .int v8, .int v9, .int v10, .long v11, .int v12, .int v13, .int v14, .int v15, .ref m16, .ref m17, .ref m18, .ref m19, .ref m20, .ref m21, .ref m22, .ref m23, .int v24, .ref m25, .ref m26, .ref m27, .ref m28, .ref m29, .int v30, .ref m31, .ref m32, .ref m33, .int v34, .int v35, .int v36, .ref m37, .ref m38, .ref m39, .ref m40, .long v41])), (m1, .inl (k 0, 4, .inl f1)), (m16, .inl (k 0, 5, .inl f16)), (m17, .inl (k 0, 30, .inl f17))]) [0, 1, 2, 3] rfl, hD.sub (ws' := [(mo, .inr (12, [.int 0, .ref m1, .ref m2, .ref m3, .ref m4, .ref m5, .int v6, .int v7, .int v8, .int v9, .int v10, .long v11, .int v12, .int v13, .int v14, .int v15, .ref m16, .ref m17, .ref m18, .ref m19, .ref m20, .ref m21, .ref m22, .ref m23, .int v24, .ref m25, .ref m26, .ref m27, .ref m28, .ref m29, .int v30, .ref m31, .ref m32, .ref m33, .int v34, .int v35, .int v36, .ref m37, .ref m38, .ref m39, .ref m40, .long v41])), (m1, .inl (k 0, 4, .inl f1)), (m16, .inl (k 0, 5, .inl f16)), (m17, .inl (k 0, 30, .inl f17))]) [0, 1, 2, 3] (by decide) rfl, hS, lv_sub hl [2, 3, 1, 0] rfl⟩
    have zh_9 : ¬ p0.toInt = 8 := z_ne h_9
    refine lv_tableOut (tgt := 97) hx hb dX12_count_27 (by omega) (by decide) ?_
    refine lv_iconst (v := (-1)) hx hb dX12_count_97 (by decide) ?_
    have hP9 := hP.sub (ws' := [(mo, .inr (12, [.int 0, .ref m1, .ref m2, .ref m3, .ref m4, .ref m5, .int v6, .int v7, .int v8, .int v9, .int v10, .long v11, .int v12, .int v13, .int v14, .int v15, .ref m16, .ref m17, .ref m18, .ref m19, .ref m20, .ref m21, .ref m22, .ref m23, .int v24, .ref m25, .ref m26, .ref m27, .ref m28, .ref m29, .int v30, .ref m31, .ref m32, .ref m33, .int v34, .int v35, .int v36, .ref m37, .ref m38, .ref m39, .ref m40, .long v41])), (m1, .inl (k 0, 4, .inl f1)), (m16, .inl (k 0, 5, .inl f16)), (m17, .inl (k 0, 30, .inl f17))]) [0, 1, 2, 3] rfl
    have hD9 := hD.sub (ws' := [(mo, .inr (12, [.int 0, .ref m1, .ref m2, .ref m3, .ref m4, .ref m5, .int v6, .int v7, .int v8, .int v9, .int v10, .long v11, .int v12, .int v13, .int v14, .int v15, .ref m16, .ref m17, .ref m18, .ref m19, .ref m20, .ref m21, .ref m22, .ref m23, .int v24, .ref m25, .ref m26, .ref m27, .ref m28, .ref m29, .int v30, .ref m31, .ref m32, .ref m33, .int v34, .int v35, .int v36, .ref m37, .ref m38, .ref m39, .ref m40, .long v41])), (m1, .inl (k 0, 4, .inl f1)), (m16, .inl (k 0, 5, .inl f16)), (m17, .inl (k 0, 30, .inl f17))]) [0, 1, 2, 3] (by decide) rfl
    exact W.iret (v := (-1)) hx hb hr (fun tZ ht hW => ⟨⟨(-1), 0, rfl, (show 0 ≤ 0 ∧ 0 ≤ 0 from by omega), by rw [ht]; exact hP9, va_K.moved hW.alike hK, hD9⟩, hS.F ht⟩) hS.2.2 dX12_count_98
  · skip
    have zh_5 : ¬ r_1.toInt = 0 := z_ne h_5
    refine lv_aload_n hx hb dX12_count_17 rfl (lv_at hl 0 rfl) ?_
    refine va_get (D := D) (ci := 12) (v := .ref m17) (C := RX12) (T := TX12) (N := 42) hx hb hts iT_X12 hown hK hP 0 rfl rfl 17 (by decide) (hts _ tw_6_70) (fun _ h9 => h9) rfl dX12_count_18 ?_
    refine lv_iload_n hx hb dX12_count_21 rfl (lv_at hl 1 rfl) ?_
    refine va_iald hx hb hK hP 3 0 rfl rfl (z_in (by omega) (by omega)) dX12_count_22 ?_
    refine lv_topi (fun x_19 ex_19 => ?_)
    have hP9 := hP.sub (ws' := [(mo, .inr (12, [.int 0, .ref m1, .ref m2, .ref m3, .ref m4, .ref m5, .int v6, .int v7, .int v8, .int v9, .int v10, .long v11, .int v12, .int v13, .int v14, .int v15, .ref m16, .ref m17, .ref m18, .ref m19, .ref m20, .ref m21, .ref m22, .ref m23, .int v24, .ref m25, .ref m26, .ref m27, .ref m28, .ref m29, .int v30, .ref m31, .ref m32, .ref m33, .int v34, .int v35, .int v36, .ref m37, .ref m38, .ref m39, .ref m40, .long v41])), (m1, .inl (k 0, 4, .inl f1)), (m16, .inl (k 0, 5, .inl f16)), (m17, .inl (k 0, 30, .inl f17))]) [0, 1, 2, 3] rfl
    have hD9 := hD.sub (ws' := [(mo, .inr (12, [.int 0, .ref m1, .ref m2, .ref m3, .ref m4, .ref m5, .int v6, .int v7, .int v8, .int v9, .int v10, .long v11, .int v12, .int v13, .int v14, .int v15, .ref m16, .ref m17, .ref m18, .ref m19, .ref m20, .ref m21, .ref m22, .ref m23, .int v24, .ref m25, .ref m26, .ref m27, .ref m28, .ref m29, .int v30, .ref m31, .ref m32, .ref m33, .int v34, .int v35, .int v36, .ref m37, .ref m38, .ref m39, .ref m40, .long v41])), (m1, .inl (k 0, 4, .inl f1)), (m16, .inl (k 0, 5, .inl f16)), (m17, .inl (k 0, 30, .inl f17))]) [0, 1, 2, 3] (by decide) rfl
    exact W.iret (v := x_19) hx hb hr (fun tZ ht hW => ⟨⟨x_19, 0, rfl, (show 0 ≤ 0 ∧ 0 ≤ 0 from by omega), by rw [ht]; exact hP9, va_K.moved hW.alike hK, hD9⟩, hS.F ht⟩) hS.2.2 dX12_count_23
