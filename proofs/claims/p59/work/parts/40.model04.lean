set_option maxHeartbeats 4000000 in
set_option maxRecDepth 100000 in
theorem c_X12_clears (l : Launch) (D : va_G) (k : Nat → ClassId) (mo : Nat) (v0 : Int32) (m1 : Nat) (m2 : Nat) (m3 : Nat) (m4 : Nat) (m5 : Nat) (v6 : Int32) (v7 : Int32) (v8 : Int32) (v9 : Int32) (v10 : Int32) (v11 : Int64) (v12 : Int32) (v13 : Int32) (v14 : Int32) (v15 : Int32) (m16 : Nat) (m17 : Nat) (m18 : Nat) (m19 : Nat) (m20 : Nat) (m21 : Nat) (m22 : Nat) (m23 : Nat) (v24 : Int32) (m25 : Nat) (m26 : Nat) (m27 : Nat) (m28 : Nat) (m29 : Nat) (v30 : Int32) (m31 : Nat) (m32 : Nat) (m33 : Nat) (v34 : Int32) (v35 : Int32) (v36 : Int32) (m37 : Nat) (m38 : Nat) (m39 : Nat) (m40 : Nat) (v41 : Int64) (f16 : Nat → Int32) (f17 : Nat → Int32) (f18 : Nat → Int32) (sz : Nat) (h_v6 : 0 ≤ v6.toInt ∧ v6.toInt ≤ 1000) (h_v24 : 0 ≤ v24.toInt ∧ v24.toInt ≤ 1023) (hp_f17_0 : PR 30 6 0 0 8 f17) (hp_f17_1 : PR 30 6 1 0 10 f17) (hp_f17_2 : PR 30 6 2 0 4 f17) (hp_f17_3 : PR 30 6 3 0 6 f17) (hp_f17_4 : PR 30 6 4 0 2 f17) (hp_f17_5 : PR 30 6 5 0 40 f17) (hp_f18_0 : PR 250 5 0 0 7 f18) (hp_f18_1 : PR 250 5 1 0 7 f18) (hp_f18_2 : PR 250 5 2 0 60 f18) (hp_f18_3 : PR 250 5 3 0 10 f18) (hTK : TK f17 f18) : Met l yX12_clears (ww yX12_clears cX12_clears 2 none) ({ frames := 1, cells := 0, slots := 0, locals := 22 }) (Pre0 D k [(mo, .inr (12, [.int v0, .ref m1, .ref m2, .ref m3, .ref m4, .ref m5, .int v6, .int v7, .int v8, .int v9, .int v10, .long v11, .int v12, .int v13, .int v14, .int v15, .ref m16, .ref m17, .ref m18, .ref m19, .ref m20, .ref m21, .ref m22, .ref m23, .int v24, .ref m25, .ref m26, .ref m27, .ref m28, .ref m29, .int v30, .ref m31, .ref m32, .ref m33, .int v34, .int v35, .int v36, .ref m37, .ref m38, .ref m39, .ref m40, .long v41])), (m16, .inl (k 0, 5, .inl f16)), (m17, .inl (k 0, 30, .inl f17)), (m18, .inl (k 0, 250, .inl f18))] sz [.ref mo]) (va_Qv (fun (u : (Nat → Int32) × (Nat → Int32)) => match u with | (f16z, f17z) => (PR 30 6 0 0 8 f17z) ∧ (PR 30 6 1 0 10 f17z) ∧ (PR 30 6 2 0 4 f17z) ∧ (PR 30 6 3 0 6 f17z) ∧ (PR 30 6 4 0 2 f17z) ∧ (PR 30 6 5 0 40 f17z) ∧ (TK f17z f18)) (fun (u : (Nat → Int32) × (Nat → Int32)) tZ => match u with | (f16z, f17z) => Bw D k (va_A [(mo, .inr (12, [.int v0, .ref m1, .ref m2, .ref m3, .ref m4, .ref m5, .int v6, .int v7, .int v8, .int v9, .int v10, .long v11, .int v12, .int v13, .int v14, .int v15, .ref m16, .ref m17, .ref m18, .ref m19, .ref m20, .ref m21, .ref m22, .ref m23, .int v24, .ref m25, .ref m26, .ref m27, .ref m28, .ref m29, .int v30, .ref m31, .ref m32, .ref m33, .int v34, .int v35, .int v36, .ref m37, .ref m38, .ref m39, .ref m40, .long v41])), (m16, .inl (k 0, 5, .inl f16)), (m17, .inl (k 0, 30, .inl f17)), (m18, .inl (k 0, 250, .inl f18))] sz) [(mo, .inr (12, [.int v0, .ref m1, .ref m2, .ref m3, .ref m4, .ref m5, .int v6, .int v7, .int v8, .int v9, .int v10, .long v11, .int v12, .int v13, .int v14, .int v15, .ref m16, .ref m17, .ref m18, .ref m19, .ref m20, .ref m21, .ref m22, .ref m23, .int v24, .ref m25, .ref m26, .ref m27, .ref m28, .ref m29, .int v30, .ref m31, .ref m32, .ref m33, .int v34, .int v35, .int v36, .ref m37, .ref m38, .ref m39, .ref m40, .long v41])), (m16, .inl (k 0, 5, .inl f16z)), (m17, .inl (k 0, 30, .inl f17z)), (m18, .inl (k 0, 250, .inl f18))] tZ) (va_A [(mo, .inr (12, [.int v0, .ref m1, .ref m2, .ref m3, .ref m4, .ref m5, .int v6, .int v7, .int v8, .int v9, .int v10, .long v11, .int v12, .int v13, .int v14, .int v15, .ref m16, .ref m17, .ref m18, .ref m19, .ref m20, .ref m21, .ref m22, .ref m23, .int v24, .ref m25, .ref m26, .ref m27, .ref m28, .ref m29, .int v30, .ref m31, .ref m32, .ref m33, .int v34, .int v35, .int v36, .ref m37, .ref m38, .ref m39, .ref m40, .long v41])), (m16, .inl (k 0, 5, .inl f16)), (m17, .inl (k 0, 30, .inl f17)), (m18, .inl (k 0, 250, .inl f18))] sz)) 0 0 (va_A [(mo, .inr (12, [.int v0, .ref m1, .ref m2, .ref m3, .ref m4, .ref m5, .int v6, .int v7, .int v8, .int v9, .int v10, .long v11, .int v12, .int v13, .int v14, .int v15, .ref m16, .ref m17, .ref m18, .ref m19, .ref m20, .ref m21, .ref m22, .ref m23, .int v24, .ref m25, .ref m26, .ref m27, .ref m28, .ref m29, .int v30, .ref m31, .ref m32, .ref m33, .int v34, .int v35, .int v36, .ref m37, .ref m38, .ref m39, .ref m40, .long v41])), (m16, .inl (k 0, 5, .inl f16)), (m17, .inl (k 0, 30, .inl f17)), (m18, .inl (k 0, 250, .inl f18))] sz) := by
  refine Met.ofW (cc := cX12_clears) (maxL := 2) (ret := none) (by decide +kernel) rfl ?_
  intro p e s m args below meth c s₁ B hml hv
  obtain ⟨rfl, hsz, hP, hK, hD0, hN⟩ := hv
  have hx := B.exec
  have hb := B.bytes
  have hr := B.returns
  have hts : ∀ w ∈ TT, w.before _ s = true := fun w h => atoms_spec (ws := ww yX12_clears cX12_clears 2 none) B.pre w (List.mem_cons_of_mem _ h)
  have hown : s.vm.findClass RX12 = some m.cls := findClass_of_methodNamed B.named
  have hlocks := B.notSynchronized
  subst hsz
  have hD := hD0.self (sz := s.heap.size)
  generalize hAe : va_A [(mo, .inr (12, [.int v0, .ref m1, .ref m2, .ref m3, .ref m4, .ref m5, .int v6, .int v7, .int v8, .int v9, .int v10, .long v11, .int v12, .int v13, .int v14, .int v15, .ref m16, .ref m17, .ref m18, .ref m19, .ref m20, .ref m21, .ref m22, .ref m23, .int v24, .ref m25, .ref m26, .ref m27, .ref m28, .ref m29, .int v30, .ref m31, .ref m32, .ref m33, .int v34, .int v35, .int v36, .ref m37, .ref m38, .ref m39, .ref m40, .long v41])), (m16, .inl (k 0, 5, .inl f16)), (m17, .inl (k 0, 30, .inl f17)), (m18, .inl (k 0, 250, .inl f18))] s.heap.size = A at hD ⊢
  have hA : ∀ q : Nat, s.heap.size ≤ q → A q := fun q h => by rw [← hAe]; exact Or.inr h
  have hS : va_S A s.heap s.heap [] := va_S.rf
  have hl := lv_entry ([.ref mo]) (n := 2) (Nat.le_of_ble_eq_true rfl)
  rw [lg_entry_eq]
  generalize (lg_sl ([.ref mo]) ++ List.replicate (2 - (lg_sl ([.ref mo])).length) Slot.unset).toArray = ls at hl ⊢
  have hl : lv_has ls 2 [(0, .ref mo)] := hl
  refine lv_aload_n hx hb dX12_clears_0 rfl (lv_at hl 0 rfl) ?_
  refine va_get (D := D) (ci := 12) (v := .ref m16) (C := RX12) (T := TX12) (N := 42) hx hb hts iT_X12 hown hK hP 0 rfl rfl 16 (by decide) (hts _ tw_6_69) (fun _ h9 => h9) rfl dX12_clears_1 ?_
  refine lv_iconst (v := 4) hx hb dX12_clears_4 (by decide) ?_
  refine lv_iconst (v := 0) hx hb dX12_clears_5 (by decide) ?_
  refine va_iast hx hb hK hP hD hS 1 0 rfl rfl (z_in (by decide) (by decide)) dX12_clears_6 (fun H locs hP hD hS => ?_)
  obtain ⟨g_1, eg_1⟩ : ∃ z : Nat → Int32, upd f16 4 0 = z := ⟨_, rfl⟩
  have hP : va_P D vwCl [(mo, .inr (12, [.int v0, .ref m1, .ref m2, .ref m3, .ref m4, .ref m5, .int v6, .int v7, .int v8, .int v9, .int v10, .long v11, .int v12, .int v13, .int v14, .int v15, .ref m16, .ref m17, .ref m18, .ref m19, .ref m20, .ref m21, .ref m22, .ref m23, .int v24, .ref m25, .ref m26, .ref m27, .ref m28, .ref m29, .int v30, .ref m31, .ref m32, .ref m33, .int v34, .int v35, .int v36, .ref m37, .ref m38, .ref m39, .ref m40, .long v41])), (m16, .inl (k 0, 5, .inl (upd f16 4 0))), (m17, .inl (k 0, 30, .inl f17)), (m18, .inl (k 0, 250, .inl f18))] H := hP
  have hD : va_D A [(mo, .inr (12, [.int v0, .ref m1, .ref m2, .ref m3, .ref m4, .ref m5, .int v6, .int v7, .int v8, .int v9, .int v10, .long v11, .int v12, .int v13, .int v14, .int v15, .ref m16, .ref m17, .ref m18, .ref m19, .ref m20, .ref m21, .ref m22, .ref m23, .int v24, .ref m25, .ref m26, .ref m27, .ref m28, .ref m29, .int v30, .ref m31, .ref m32, .ref m33, .int v34, .int v35, .int v36, .ref m37, .ref m38, .ref m39, .ref m40, .long v41])), (m16, .inl (k 0, 5, .inl (upd f16 4 0))), (m17, .inl (k 0, 30, .inl f17)), (m18, .inl (k 0, 250, .inl f18))] := hD
  rw [eg_1] at hP hD
  refine lv_iconst (v := 0) hx hb dX12_clears_7 (by decide) ?_
  refine lv_istore_n (lv' := [(1, .int 0), (0, .ref mo)]) hx hb dX12_clears_8 rfl hl (by decide) rfl (fun ls hl => ?_)
  refine loop_r (Wg := fun H locs ls => W p l e _ s m _ below meth c H locs _ _ _ (F0 m 9 ls [])) (fun n9 H locs ls => ∃ (L9l1 : Int32) (L9a2 : Nat → Int32), n9 = (6 - L9l1.toInt).toNat ∧ (0 ≤ L9l1.toInt ∧ L9l1.toInt ≤ 6) ∧ (PR 30 6 0 0 8 L9a2) ∧ (PR 30 6 1 0 10 L9a2) ∧ (PR 30 6 2 0 4 L9a2) ∧ (PR 30 6 3 0 6 L9a2) ∧ (PR 30 6 4 0 2 L9a2) ∧ (PR 30 6 5 0 40 L9a2) ∧ (TK L9a2 f18) ∧ va_P D vwCl [(mo, .inr (12, [.int v0, .ref m1, .ref m2, .ref m3, .ref m4, .ref m5, .int v6, .int v7, .int v8, .int v9, .int v10, .long v11, .int v12, .int v13, .int v14, .int v15, .ref m16, .ref m17, .ref m18, .ref m19, .ref m20, .ref m21, .ref m22, .ref m23, .int v24, .ref m25, .ref m26, .ref m27, .ref m28, .ref m29, .int v30, .ref m31, .ref m32, .ref m33, .int v34, .int v35, .int v36, .ref m37, .ref m38, .ref m39, .ref m40, .long v41])), (m16, .inl (k 0, 5, .inl g_1)), (m17, .inl (k 0, 30, .inl L9a2)), (m18, .inl (k 0, 250, .inl f18))] H ∧ va_D A [(mo, .inr (12, [.int v0, .ref m1, .ref m2, .ref m3, .ref m4, .ref m5, .int v6, .int v7, .int v8, .int v9, .int v10, .long v11, .int v12, .int v13, .int v14, .int v15, .ref m16, .ref m17, .ref m18, .ref m19, .ref m20, .ref m21, .ref m22, .ref m23, .int v24, .ref m25, .ref m26, .ref m27, .ref m28, .ref m29, .int v30, .ref m31, .ref m32, .ref m33, .int v34, .int v35, .int v36, .ref m37, .ref m38, .ref m39, .ref m40, .long v41])), (m16, .inl (k 0, 5, .inl g_1)), (m17, .inl (k 0, 30, .inl L9a2)), (m18, .inl (k 0, 250, .inl f18))] ∧ va_S A s.heap H locs ∧ lv_has ls 2 [(0, .ref mo), (1, .int L9l1)]) (fun n9 H locs ls hI ih_2 => ?_) _ _ _ _ ⟨0, f17, rfl, (show 0 ≤ 0 ∧ 0 ≤ 6 from by omega), hp_f17_0, hp_f17_1, hp_f17_2, hp_f17_3, hp_f17_4, hp_f17_5, hTK, hP.sub (ws' := [(mo, .inr (12, [.int v0, .ref m1, .ref m2, .ref m3, .ref m4, .ref m5, .int v6, .int v7, .int v8, .int v9, .int v10, .long v11, .int v12, .int v13, .int v14, .int v15, .ref m16, .ref m17, .ref m18, .ref m19, .ref m20, .ref m21, .ref m22, .ref m23, .int v24, .ref m25, .ref m26, .ref m27, .ref m28, .ref m29, .int v30, .ref m31, .ref m32, .ref m33, .int v34, .int v35, .int v36, .ref m37, .ref m38, .ref m39, .ref m40, .long v41])), (m16, .inl (k 0, 5, .inl g_1)), (m17, .inl (k 0, 30, .inl f17)), (m18, .inl (k 0, 250, .inl f18))]) [0, 1, 2, 3] rfl, hD.sub (ws' := [(mo, .inr (12, [.int v0, .ref m1, .ref m2, .ref m3, .ref m4, .ref m5, .int v6, .int v7, .int v8, .int v9, .int v10, .long v11, .int v12, .int v13, .int v14, .int v15, .ref m16, .ref m17, .ref m18, .ref m19, .ref m20, .ref m21, .ref m22, .ref m23, .int v24, .ref m25, .ref m26, .ref m27, .ref m28, .ref m29, .int v30, .ref m31, .ref m32, .ref m33, .int v34, .int v35, .int v36, .ref m37, .ref m38, .ref m39, .ref m40, .long v41])), (m16, .inl (k 0, 5, .inl g_1)), (m17, .inl (k 0, 30, .inl f17)), (m18, .inl (k 0, 250, .inl f18))]) [0, 1, 2, 3] (by decide) rfl, hS, lv_sub hl [1, 0] rfl⟩
  clear hP hD hS hl
  obtain ⟨L9l1, L9a2, en_3, zL9l1, L9a2h0, L9a2h1, L9a2h2, L9a2h3, L9a2h4, L9a2h5, hi9x0, hP, hD, hS, hl⟩ := hI
  refine lv_iload_n hx hb dX12_clears_9 rfl (lv_at hl 1 rfl) ?_
  refine lv_bipush (v := 6) hx hb dX12_clears_10 (by decide) ?_
  refine lv_icmp_ge (tgt := 27) hx hb dX12_clears_12 (by decide) (fun h_4 => ?_) (fun h_4 => ?_)
  · skip
    have zh_4 : 6 ≤ L9l1.toInt := z_le h_4
    have hP9 := hP.sub (ws' := [(mo, .inr (12, [.int v0, .ref m1, .ref m2, .ref m3, .ref m4, .ref m5, .int v6, .int v7, .int v8, .int v9, .int v10, .long v11, .int v12, .int v13, .int v14, .int v15, .ref m16, .ref m17, .ref m18, .ref m19, .ref m20, .ref m21, .ref m22, .ref m23, .int v24, .ref m25, .ref m26, .ref m27, .ref m28, .ref m29, .int v30, .ref m31, .ref m32, .ref m33, .int v34, .int v35, .int v36, .ref m37, .ref m38, .ref m39, .ref m40, .long v41])), (m16, .inl (k 0, 5, .inl g_1)), (m17, .inl (k 0, 30, .inl L9a2)), (m18, .inl (k 0, 250, .inl f18))]) [0, 1, 2, 3] rfl
    have hD9 := hD.sub (ws' := [(mo, .inr (12, [.int v0, .ref m1, .ref m2, .ref m3, .ref m4, .ref m5, .int v6, .int v7, .int v8, .int v9, .int v10, .long v11, .int v12, .int v13, .int v14, .int v15, .ref m16, .ref m17, .ref m18, .ref m19, .ref m20, .ref m21, .ref m22, .ref m23, .int v24, .ref m25, .ref m26, .ref m27, .ref m28, .ref m29, .int v30, .ref m31, .ref m32, .ref m33, .int v34, .int v35, .int v36, .ref m37, .ref m38, .ref m39, .ref m40, .long v41])), (m16, .inl (k 0, 5, .inl g_1)), (m17, .inl (k 0, 30, .inl L9a2)), (m18, .inl (k 0, 250, .inl f18))]) [0, 1, 2, 3] (by decide) rfl
    exact W.vret hx hb hr (fun tZ ht hW => ⟨⟨(g_1, L9a2), rfl, ⟨L9a2h0, L9a2h1, L9a2h2, L9a2h3, L9a2h4, L9a2h5, hi9x0⟩, by rw [ht]; exact hP9, va_K.moved hW.alike hK, hD9⟩, hS.F ht⟩) hS.2.2 dX12_clears_27
  · skip
    have zh_4 : L9l1.toInt < 6 := z_nle h_4
    refine lv_aload_n hx hb dX12_clears_15 rfl (lv_at hl 0 rfl) ?_
    refine lv_iload_n hx hb dX12_clears_16 rfl (lv_at hl 1 rfl) ?_
    refine lv_iconst (v := 0) hx hb dX12_clears_17 (by decide) ?_
    have hPc := hP.sub (ws' := [(mo, .inr (12, [.int v0, .ref m1, .ref m2, .ref m3, .ref m4, .ref m5, .int v6, .int v7, .int v8, .int v9, .int v10, .long v11, .int v12, .int v13, .int v14, .int v15, .ref m16, .ref m17, .ref m18, .ref m19, .ref m20, .ref m21, .ref m22, .ref m23, .int v24, .ref m25, .ref m26, .ref m27, .ref m28, .ref m29, .int v30, .ref m31, .ref m32, .ref m33, .int v34, .int v35, .int v36, .ref m37, .ref m38, .ref m39, .ref m40, .long v41])), (m17, .inl (k 0, 30, .inl L9a2))]) [0, 2] rfl
    have hDc := hD.sub (ws' := [(mo, .inr (12, [.int v0, .ref m1, .ref m2, .ref m3, .ref m4, .ref m5, .int v6, .int v7, .int v8, .int v9, .int v10, .long v11, .int v12, .int v13, .int v14, .int v15, .ref m16, .ref m17, .ref m18, .ref m19, .ref m20, .ref m21, .ref m22, .ref m23, .int v24, .ref m25, .ref m26, .ref m27, .ref m28, .ref m29, .int v30, .ref m31, .ref m32, .ref m33, .int v34, .int v35, .int v36, .ref m37, .ref m38, .ref m39, .ref m40, .long v41])), (m17, .inl (k 0, 30, .inl L9a2))]) [0, 2] (by decide) rfl
    have hFc := va_free (wc := [(mo, .inr (12, [.int v0, .ref m1, .ref m2, .ref m3, .ref m4, .ref m5, .int v6, .int v7, .int v8, .int v9, .int v10, .long v11, .int v12, .int v13, .int v14, .int v15, .ref m16, .ref m17, .ref m18, .ref m19, .ref m20, .ref m21, .ref m22, .ref m23, .int v24, .ref m25, .ref m26, .ref m27, .ref m28, .ref m29, .int v30, .ref m31, .ref m32, .ref m33, .int v34, .int v35, .int v36, .ref m37, .ref m38, .ref m39, .ref m40, .long v41])), (m17, .inl (k 0, 30, .inl L9a2))]) hD hS hA [0, 2] rfl
    refine va_callv (va_runV (C := RX12) (As := [.int L9l1, .int 0]) (rest := []) ⟨hx, hb, hml, hown, hts⟩ (c_X12_tells_0 l D k mo L9l1 v0 m1 m2 m3 m4 m5 v6 v7 v8 v9 v10 v11 v12 v13 v14 v15 m16 m17 m18 m19 m20 m21 m22 m23 v24 m25 m26 m27 m28 m29 v30 m31 m32 m33 v34 v35 v36 m37 m38 m39 m40 v41 L9a2 H.size (show 0 ≤ L9l1.toInt ∧ L9l1.toInt ≤ 5 from by omega) (show 0 ≤ v6.toInt ∧ v6.toInt ≤ 1000 from by omega) (show 0 ≤ v24.toInt ∧ v24.toInt ≤ 1023 from by omega) L9a2h0 L9a2h1 L9a2h2 L9a2h3 L9a2h4 L9a2h5) (cwV 2 hts (gV tw_6_226 tw_6_228 tw_p_37 tw_1_13 tw_6_229) rfl rfl rfl hdV_X12_tells ⟨Nat.le_of_ble_eq_true rfl, Nat.le_of_ble_eq_true rfl⟩) (cz_V hK hPc hDc hN (ci := 12) (q0 := 0) rfl rfl [.int L9l1, .int 0]) rfl rfl hl.1 rfl (lv_room (Nat.le_of_ble_eq_true rfl)) dX12_clears_18 ⟨Nat.le_of_ble_eq_true rfl, Nat.le_of_ble_eq_true rfl⟩) hS (fun q _ h => hFc q h) hFc (fun uZ tZ H1 locs ht hvm hw hB hz1 hk1 hS => ?_)
    obtain ⟨o_6, rfl⟩ : ∃ z, z = uZ := ⟨_, rfl⟩
    obtain ⟨hP1, hK1, hD1⟩ := hB
    rw [ht] at hP1
    obtain ⟨hP, hD⟩ := va_join (wr := [(m16, .inl (k 0, 5, .inl g_1)), (m18, .inl (k 0, 250, .inl f18))]) (w1 := [(mo, .inr (12, [.int v0, .ref m1, .ref m2, .ref m3, .ref m4, .ref m5, .int v6, .int v7, .int v8, .int v9, .int v10, .long v11, .int v12, .int v13, .int v14, .int v15, .ref m16, .ref m17, .ref m18, .ref m19, .ref m20, .ref m21, .ref m22, .ref m23, .int v24, .ref m25, .ref m26, .ref m27, .ref m28, .ref m29, .int v30, .ref m31, .ref m32, .ref m33, .int v34, .int v35, .int v36, .ref m37, .ref m38, .ref m39, .ref m40, .long v41])), (m17, .inl (k 0, 30, .inl o_6))]) hP hD [0, 2] [1, 3] rfl rfl (by decide) (by decide) hk1 hFc hP1 hD1
    clear hK1 hP1 hD1 hPc hDc hFc
    clear hk1 hz1 ht hvm
    have hP : va_P D vwCl [(m16, .inl (k 0, 5, .inl g_1)), (m18, .inl (k 0, 250, .inl f18)), (mo, .inr (12, [.int v0, .ref m1, .ref m2, .ref m3, .ref m4, .ref m5, .int v6, .int v7, .int v8, .int v9, .int v10, .long v11, .int v12, .int v13, .int v14, .int v15, .ref m16, .ref m17, .ref m18, .ref m19, .ref m20, .ref m21, .ref m22, .ref m23, .int v24, .ref m25, .ref m26, .ref m27, .ref m28, .ref m29, .int v30, .ref m31, .ref m32, .ref m33, .int v34, .int v35, .int v36, .ref m37, .ref m38, .ref m39, .ref m40, .long v41])), (m17, .inl (k 0, 30, .inl o_6))] H1 := hP
    have hD : va_D A [(m16, .inl (k 0, 5, .inl g_1)), (m18, .inl (k 0, 250, .inl f18)), (mo, .inr (12, [.int v0, .ref m1, .ref m2, .ref m3, .ref m4, .ref m5, .int v6, .int v7, .int v8, .int v9, .int v10, .long v11, .int v12, .int v13, .int v14, .int v15, .ref m16, .ref m17, .ref m18, .ref m19, .ref m20, .ref m21, .ref m22, .ref m23, .int v24, .ref m25, .ref m26, .ref m27, .ref m28, .ref m29, .int v30, .ref m31, .ref m32, .ref m33, .int v34, .int v35, .int v36, .ref m37, .ref m38, .ref m39, .ref m40, .long v41])), (m17, .inl (k 0, 30, .inl o_6))] := hD
    generalize H1 = H at hP hS ⊢
    have hw_7 : (PR 30 6 0 0 8 o_6) ∧ (PR 30 6 1 0 10 o_6) ∧ (PR 30 6 2 0 4 o_6) ∧ (PR 30 6 3 0 6 o_6) ∧ (PR 30 6 4 0 2 o_6) ∧ (PR 30 6 5 0 40 o_6) ∧ (o_6 = upd L9a2 (24 + L9l1).toNatClampNeg 0) := hw
    obtain ⟨hw_8, hw_9, hw_10, hw_11, hw_12, hw_13, hw_14⟩ := hw_7
    clear hw
    have tk_15 : TK o_6 f18 := by rw [hw_14]; exact TK.zero hi9x0
    obtain ⟨x_16, ex_16⟩ : ∃ y : Int32, y = L9l1 + 1 := ⟨_, rfl⟩
    have zx_16 : x_16.toInt = L9l1.toInt + 1 := by rw [ex_16]; exact z_add rfl rfl (by omega) (by omega)
    refine lv_iinc (v := x_16) (lv' := [(1, .int x_16), (0, .ref mo)]) hx hb dX12_clears_21 hl (k := 1) rfl (by rw [ex_16]; rfl) (by decide) rfl (fun ls hl => ?_)
    refine lv_goto (tgt := 9) hx hb dX12_clears_24 (by decide) ?_
    exact ih_2 _ _ _ _ (by omega) ⟨x_16, o_6, rfl, (show 0 ≤ x_16.toInt ∧ x_16.toInt ≤ 6 from by omega), hw_8, hw_9, hw_10, hw_11, hw_12, hw_13, tk_15, hP.sub (ws' := [(mo, .inr (12, [.int v0, .ref m1, .ref m2, .ref m3, .ref m4, .ref m5, .int v6, .int v7, .int v8, .int v9, .int v10, .long v11, .int v12, .int v13, .int v14, .int v15, .ref m16, .ref m17, .ref m18, .ref m19, .ref m20, .ref m21, .ref m22, .ref m23, .int v24, .ref m25, .ref m26, .ref m27, .ref m28, .ref m29, .int v30, .ref m31, .ref m32, .ref m33, .int v34, .int v35, .int v36, .ref m37, .ref m38, .ref m39, .ref m40, .long v41])), (m16, .inl (k 0, 5, .inl g_1)), (m17, .inl (k 0, 30, .inl o_6)), (m18, .inl (k 0, 250, .inl f18))]) [2, 0, 3, 1] rfl, hD.sub (ws' := [(mo, .inr (12, [.int v0, .ref m1, .ref m2, .ref m3, .ref m4, .ref m5, .int v6, .int v7, .int v8, .int v9, .int v10, .long v11, .int v12, .int v13, .int v14, .int v15, .ref m16, .ref m17, .ref m18, .ref m19, .ref m20, .ref m21, .ref m22, .ref m23, .int v24, .ref m25, .ref m26, .ref m27, .ref m28, .ref m29, .int v30, .ref m31, .ref m32, .ref m33, .int v34, .int v35, .int v36, .ref m37, .ref m38, .ref m39, .ref m40, .long v41])), (m16, .inl (k 0, 5, .inl g_1)), (m17, .inl (k 0, 30, .inl o_6)), (m18, .inl (k 0, 250, .inl f18))]) [2, 0, 3, 1] (by decide) rfl, hS, lv_sub hl [1, 0] rfl⟩
set_option maxHeartbeats 4000000 in
set_option maxRecDepth 100000 in
theorem c_X12_copyRow_0 (l : Launch) (D : va_G) (k : Nat → ClassId) (p0 : Nat) (p2 : Int32) (p3 : Int32) (f16 : Nat → Int32) (sz : Nat) (h_p2 : 0 ≤ p2.toInt ∧ p2.toInt ≤ 4) (h_p3 : 0 ≤ p3.toInt ∧ p3.toInt ≤ 4) : Met l yX12_copyRow (ww yX12_copyRow cX12_copyRow 5 none) ({ frames := 0, cells := 0, slots := 0, locals := 0 }) (Pre0 D k [(p0, .inl (k 0, 5, .inl f16))] sz [.ref p0, .int 1, .int p2, .int p3]) (va_Qv (fun (f16z : (Nat → Int32)) => True) (fun (f16z : (Nat → Int32)) tZ => Bw D k (va_A [(p0, .inl (k 0, 5, .inl f16))] sz) [(p0, .inl (k 0, 5, .inl f16z))] tZ) (va_A [(p0, .inl (k 0, 5, .inl f16))] sz)) 0 0 (va_A [(p0, .inl (k 0, 5, .inl f16))] sz) := by
  refine Met.ofW (cc := cX12_copyRow) (maxL := 5) (ret := none) (by decide +kernel) rfl ?_
  intro p e s m args below meth c s₁ B hml hv
  obtain ⟨rfl, hsz, hP, hK, hD0, hN⟩ := hv
  have hx := B.exec
  have hb := B.bytes
  have hr := B.returns
  have hts : ∀ w ∈ TT, w.before _ s = true := fun w h => atoms_spec (ws := ww yX12_copyRow cX12_copyRow 5 none) B.pre w (List.mem_cons_of_mem _ h)
  have hown : s.vm.findClass RX12 = some m.cls := findClass_of_methodNamed B.named
  have hlocks := B.notSynchronized
  subst hsz
  have hD := hD0.self (sz := s.heap.size)
  generalize hAe : va_A [(p0, .inl (k 0, 5, .inl f16))] s.heap.size = A at hD ⊢
  have hA : ∀ q : Nat, s.heap.size ≤ q → A q := fun q h => by rw [← hAe]; exact Or.inr h
  have hS : va_S A s.heap s.heap [] := va_S.rf
  have hl := lv_entry ([.ref p0, .int 1, .int p2, .int p3]) (n := 5) (Nat.le_of_ble_eq_true rfl)
  rw [lg_entry_eq]
  generalize (lg_sl ([.ref p0, .int 1, .int p2, .int p3]) ++ List.replicate (5 - (lg_sl ([.ref p0, .int 1, .int p2, .int p3])).length) Slot.unset).toArray = ls at hl ⊢
  have hl : lv_has ls 5 [(0, .ref p0), (1, .int 1), (2, .int p2), (3, .int p3)] := hl
  refine lv_iconst (v := 0) hx hb dX12_copyRow_0 (by decide) ?_
  refine lv_istore (lv' := [(4, .int 0), (0, .ref p0), (1, .int 1), (2, .int p2), (3, .int p3)]) hx hb dX12_copyRow_1 hl (by decide) rfl (fun ls hl => ?_)
  refine lv_iload hx hb dX12_copyRow_3 (lv_at hl 0 rfl) ?_
  refine lv_iload_n hx hb dX12_copyRow_5 rfl (lv_at hl 2 rfl) ?_
  refine lv_icmp_ge (tgt := 31) hx hb dX12_copyRow_6 (by decide) (fun c9 => absurd c9 (by decide)) (fun _ => ?_)
  refine lv_aload_n hx hb dX12_copyRow_9 rfl (lv_at hl 1 rfl) ?_
  refine lv_iload_n hx hb dX12_copyRow_10 rfl (lv_at hl 2 rfl) ?_
  refine lv_iload_n hx hb dX12_copyRow_11 rfl (lv_at hl 4 rfl) ?_
  refine lv_imul hx hb dX12_copyRow_12 ?_
  refine lv_topi (fun x_1 ex_1 => ?_)
  have zx_1 : x_1.toInt = 1 * p3.toInt := by rw [ex_1]; exact z_mul rfl rfl (by omega) (by omega)
  refine lv_iload hx hb dX12_copyRow_13 (lv_at hl 0 rfl) ?_
  refine lv_iadd hx hb dX12_copyRow_15 ?_
  refine lv_topi (fun x_2 ex_2 => ?_)
  have zx_2 : x_2.toInt = x_1.toInt + 0 := by rw [ex_2]; exact z_add rfl rfl (by omega) (by omega)
  refine lv_aload_n hx hb dX12_copyRow_16 rfl (lv_at hl 1 rfl) ?_
  refine lv_iload_n hx hb dX12_copyRow_17 rfl (lv_at hl 2 rfl) ?_
  refine lv_iload_n hx hb dX12_copyRow_18 rfl (lv_at hl 3 rfl) ?_
  refine lv_imul hx hb dX12_copyRow_19 ?_
  refine lv_topi (fun x_3 ex_3 => ?_)
  have zx_3 : x_3.toInt = 1 * p2.toInt := by rw [ex_3]; exact z_mul rfl rfl (by omega) (by omega)
  refine lv_iload hx hb dX12_copyRow_20 (lv_at hl 0 rfl) ?_
  refine lv_iadd hx hb dX12_copyRow_22 ?_
  refine lv_topi (fun x_4 ex_4 => ?_)
  have zx_4 : x_4.toInt = x_3.toInt + 0 := by rw [ex_4]; exact z_add rfl rfl (by omega) (by omega)
  refine va_iald hx hb hK hP 0 0 rfl rfl (z_in (by omega) (by omega)) dX12_copyRow_23 ?_
  refine lv_topi (fun x_5 ex_5 => ?_)
  refine va_iast hx hb hK hP hD hS 0 0 rfl rfl (z_in (by omega) (by omega)) dX12_copyRow_24 (fun H locs hP hD hS => ?_)
  obtain ⟨g_6, eg_6⟩ : ∃ z : Nat → Int32, upd f16 x_2.toNatClampNeg x_5 = z := ⟨_, rfl⟩
  have hP : va_P D vwCl [(p0, .inl (k 0, 5, .inl (upd f16 x_2.toNatClampNeg x_5)))] H := hP
  have hD : va_D A [(p0, .inl (k 0, 5, .inl (upd f16 x_2.toNatClampNeg x_5)))] := hD
  rw [eg_6] at hP hD
  refine lv_iinc (v := 1) (lv' := [(4, .int 1), (0, .ref p0), (1, .int 1), (2, .int p2), (3, .int p3)]) hx hb dX12_copyRow_25 hl (k := 0) rfl (by decide) (by decide) rfl (fun ls hl => ?_)
  refine lv_goto (tgt := 3) hx hb dX12_copyRow_28 (by decide) ?_
  refine lv_iload hx hb dX12_copyRow_3 (lv_at hl 0 rfl) ?_
  refine lv_iload_n hx hb dX12_copyRow_5 rfl (lv_at hl 2 rfl) ?_
  refine lv_icmp_ge (tgt := 31) hx hb dX12_copyRow_6 (by decide) (fun _ => ?_) (fun c9 => absurd c9 (by decide))
  have hP9 := hP.sub (ws' := [(p0, .inl (k 0, 5, .inl g_6))]) [0] rfl
  have hD9 := hD.sub (ws' := [(p0, .inl (k 0, 5, .inl g_6))]) [0] (by decide) rfl
  exact W.vret hx hb hr (fun tZ ht hW => ⟨⟨g_6, rfl, trivial, by rw [ht]; exact hP9, va_K.moved hW.alike hK, hD9⟩, hS.F ht⟩) hS.2.2 dX12_copyRow_31
set_option maxHeartbeats 4000000 in
set_option maxRecDepth 100000 in
theorem c_X12_copyRow_1 (l : Launch) (D : va_G) (k : Nat → ClassId) (p0 : Nat) (p2 : Int32) (p3 : Int32) (f17 : Nat → Int32) (sz : Nat) (h_p2 : 0 ≤ p2.toInt ∧ p2.toInt ≤ 4) (h_p3 : 0 ≤ p3.toInt ∧ p3.toInt ≤ 4) (hp_f17_0 : PR 30 6 0 0 8 f17) (hp_f17_1 : PR 30 6 1 0 10 f17) (hp_f17_2 : PR 30 6 2 0 4 f17) (hp_f17_3 : PR 30 6 3 0 6 f17) (hp_f17_4 : PR 30 6 4 0 2 f17) (hp_f17_5 : PR 30 6 5 0 40 f17) (hne : ¬ p2.toInt = p3.toInt) : Met l yX12_copyRow (ww yX12_copyRow cX12_copyRow 5 none) ({ frames := 0, cells := 0, slots := 0, locals := 0 }) (Pre0 D k [(p0, .inl (k 0, 30, .inl f17))] sz [.ref p0, .int 6, .int p2, .int p3]) (va_Qv (fun (f17z : (Nat → Int32)) => (PR 30 6 0 0 8 f17z) ∧ (PR 30 6 1 0 10 f17z) ∧ (PR 30 6 2 0 4 f17z) ∧ (PR 30 6 3 0 6 f17z) ∧ (PR 30 6 4 0 2 f17z) ∧ (PR 30 6 5 0 40 f17z) ∧ (CP 6 p2.toInt p3.toInt 6 f17 f17z)) (fun (f17z : (Nat → Int32)) tZ => Bw D k (va_A [(p0, .inl (k 0, 30, .inl f17))] sz) [(p0, .inl (k 0, 30, .inl f17z))] tZ) (va_A [(p0, .inl (k 0, 30, .inl f17))] sz)) 0 0 (va_A [(p0, .inl (k 0, 30, .inl f17))] sz) := by
  refine Met.ofW (cc := cX12_copyRow) (maxL := 5) (ret := none) (by decide +kernel) rfl ?_
  intro p e s m args below meth c s₁ B hml hv
  obtain ⟨rfl, hsz, hP, hK, hD0, hN⟩ := hv
  have hx := B.exec
  have hb := B.bytes
  have hr := B.returns
  have hts : ∀ w ∈ TT, w.before _ s = true := fun w h => atoms_spec (ws := ww yX12_copyRow cX12_copyRow 5 none) B.pre w (List.mem_cons_of_mem _ h)
  have hown : s.vm.findClass RX12 = some m.cls := findClass_of_methodNamed B.named
  have hlocks := B.notSynchronized
  subst hsz
  have hD := hD0.self (sz := s.heap.size)
  generalize hAe : va_A [(p0, .inl (k 0, 30, .inl f17))] s.heap.size = A at hD ⊢
  have hA : ∀ q : Nat, s.heap.size ≤ q → A q := fun q h => by rw [← hAe]; exact Or.inr h
  have hS : va_S A s.heap s.heap [] := va_S.rf
  have hl := lv_entry ([.ref p0, .int 6, .int p2, .int p3]) (n := 5) (Nat.le_of_ble_eq_true rfl)
  rw [lg_entry_eq]
  generalize (lg_sl ([.ref p0, .int 6, .int p2, .int p3]) ++ List.replicate (5 - (lg_sl ([.ref p0, .int 6, .int p2, .int p3])).length) Slot.unset).toArray = ls at hl ⊢
  have hl : lv_has ls 5 [(0, .ref p0), (1, .int 6), (2, .int p2), (3, .int p3)] := hl
  refine lv_iconst (v := 0) hx hb dX12_copyRow_0 (by decide) ?_
  refine lv_istore (lv' := [(4, .int 0), (0, .ref p0), (1, .int 6), (2, .int p2), (3, .int p3)]) hx hb dX12_copyRow_1 hl (by decide) rfl (fun ls hl => ?_)
  refine loop_r (Wg := fun H locs ls => W p l e _ s m _ below meth c H locs _ _ _ (F0 m 3 ls [])) (fun n9 H locs ls => ∃ (L3l4 : Int32) (L3a0 : Nat → Int32), n9 = (6 - L3l4.toInt).toNat ∧ (0 ≤ L3l4.toInt ∧ L3l4.toInt ≤ 6) ∧ (PR 30 6 0 0 8 L3a0) ∧ (PR 30 6 1 0 10 L3a0) ∧ (PR 30 6 2 0 4 L3a0) ∧ (PR 30 6 3 0 6 L3a0) ∧ (PR 30 6 4 0 2 L3a0) ∧ (PR 30 6 5 0 40 L3a0) ∧ (CP 6 p2.toInt p3.toInt L3l4.toInt f17 L3a0) ∧ va_P D vwCl [(p0, .inl (k 0, 30, .inl L3a0))] H ∧ va_D A [(p0, .inl (k 0, 30, .inl L3a0))] ∧ va_S A s.heap H locs ∧ lv_has ls 5 [(0, .ref p0), (1, .int 6), (2, .int p2), (3, .int p3), (4, .int L3l4)]) (fun n9 H locs ls hI ih_1 => ?_) _ _ _ _ ⟨0, f17, rfl, (show 0 ≤ 0 ∧ 0 ≤ 6 from by omega), hp_f17_0, hp_f17_1, hp_f17_2, hp_f17_3, hp_f17_4, hp_f17_5, (CP.zero _ _ _ _ rfl), hP.sub (ws' := [(p0, .inl (k 0, 30, .inl f17))]) [0] rfl, hD.sub (ws' := [(p0, .inl (k 0, 30, .inl f17))]) [0] (by decide) rfl, hS, lv_sub hl [1, 2, 3, 4, 0] rfl⟩
  clear hP hD hS hl
  obtain ⟨L3l4, L3a0, en_2, zL3l4, L3a0h0, L3a0h1, L3a0h2, L3a0h3, L3a0h4, L3a0h5, hi3x0, hP, hD, hS, hl⟩ := hI
  refine lv_iload hx hb dX12_copyRow_3 (lv_at hl 4 rfl) ?_
  refine lv_iload_n hx hb dX12_copyRow_5 rfl (lv_at hl 1 rfl) ?_
  refine lv_icmp_ge (tgt := 31) hx hb dX12_copyRow_6 (by decide) (fun h_3 => ?_) (fun h_3 => ?_)
  · skip
    have zh_3 : 6 ≤ L3l4.toInt := z_le h_3
    have hP9 := hP.sub (ws' := [(p0, .inl (k 0, 30, .inl L3a0))]) [0] rfl
    have hD9 := hD.sub (ws' := [(p0, .inl (k 0, 30, .inl L3a0))]) [0] (by decide) rfl
    exact W.vret hx hb hr (fun tZ ht hW => ⟨⟨L3a0, rfl, ⟨L3a0h0, L3a0h1, L3a0h2, L3a0h3, L3a0h4, L3a0h5, (CP.done hi3x0 (by omega))⟩, by rw [ht]; exact hP9, va_K.moved hW.alike hK, hD9⟩, hS.F ht⟩) hS.2.2 dX12_copyRow_31
  · skip
    have zh_3 : L3l4.toInt < 6 := z_nle h_3
    refine lv_aload_n hx hb dX12_copyRow_9 rfl (lv_at hl 0 rfl) ?_
    refine lv_iload_n hx hb dX12_copyRow_10 rfl (lv_at hl 1 rfl) ?_
    refine lv_iload_n hx hb dX12_copyRow_11 rfl (lv_at hl 3 rfl) ?_
    refine lv_imul hx hb dX12_copyRow_12 ?_
    refine lv_topi (fun x_4 ex_4 => ?_)
    have zx_4 : x_4.toInt = 6 * p3.toInt := by rw [ex_4]; exact z_mul rfl rfl (by omega) (by omega)
    refine lv_iload hx hb dX12_copyRow_13 (lv_at hl 4 rfl) ?_
    refine lv_iadd hx hb dX12_copyRow_15 ?_
    refine lv_topi (fun x_5 ex_5 => ?_)
    have zx_5 : x_5.toInt = x_4.toInt + L3l4.toInt := by rw [ex_5]; exact z_add rfl rfl (by omega) (by omega)
    refine lv_aload_n hx hb dX12_copyRow_16 rfl (lv_at hl 0 rfl) ?_
    refine lv_iload_n hx hb dX12_copyRow_17 rfl (lv_at hl 1 rfl) ?_
    refine lv_iload_n hx hb dX12_copyRow_18 rfl (lv_at hl 2 rfl) ?_
    refine lv_imul hx hb dX12_copyRow_19 ?_
    refine lv_topi (fun x_6 ex_6 => ?_)
    have zx_6 : x_6.toInt = 6 * p2.toInt := by rw [ex_6]; exact z_mul rfl rfl (by omega) (by omega)
    refine lv_iload hx hb dX12_copyRow_20 (lv_at hl 4 rfl) ?_
    refine lv_iadd hx hb dX12_copyRow_22 ?_
    refine lv_topi (fun x_7 ex_7 => ?_)
    have zx_7 : x_7.toInt = x_6.toInt + L3l4.toInt := by rw [ex_7]; exact z_add rfl rfl (by omega) (by omega)
    refine va_iald hx hb hK hP 0 0 rfl rfl (z_in (by omega) (by omega)) dX12_copyRow_23 ?_
    refine lv_topi (fun x_8 ex_8 => ?_)
    refine va_iast hx hb hK hP hD hS 0 0 rfl rfl (z_in (by omega) (by omega)) dX12_copyRow_24 (fun H locs hP hD hS => ?_)
    obtain ⟨g_9, eg_9⟩ : ∃ z : Nat → Int32, upd L3a0 x_5.toNatClampNeg x_8 = z := ⟨_, rfl⟩
    have hP : va_P D vwCl [(p0, .inl (k 0, 30, .inl (upd L3a0 x_5.toNatClampNeg x_8)))] H := hP
    have hD : va_D A [(p0, .inl (k 0, 30, .inl (upd L3a0 x_5.toNatClampNeg x_8)))] := hD
    rw [eg_9] at hP hD
    have hp_10 : PR 30 6 0 0 8 g_9 := by rw [← eg_9]; exact PR.cp L3a0h0 (i := x_7) (j := x_5) ex_8 (by omega) (by omega) (by omega) (by omega)
    have hp_11 : PR 30 6 1 0 10 g_9 := by rw [← eg_9]; exact PR.cp L3a0h1 (i := x_7) (j := x_5) ex_8 (by omega) (by omega) (by omega) (by omega)
    have hp_12 : PR 30 6 2 0 4 g_9 := by rw [← eg_9]; exact PR.cp L3a0h2 (i := x_7) (j := x_5) ex_8 (by omega) (by omega) (by omega) (by omega)
    have hp_13 : PR 30 6 3 0 6 g_9 := by rw [← eg_9]; exact PR.cp L3a0h3 (i := x_7) (j := x_5) ex_8 (by omega) (by omega) (by omega) (by omega)
    have hp_14 : PR 30 6 4 0 2 g_9 := by rw [← eg_9]; exact PR.cp L3a0h4 (i := x_7) (j := x_5) ex_8 (by omega) (by omega) (by omega) (by omega)
    have hp_15 : PR 30 6 5 0 40 g_9 := by rw [← eg_9]; exact PR.cp L3a0h5 (i := x_7) (j := x_5) ex_8 (by omega) (by omega) (by omega) (by omega)
    obtain ⟨x_16, ex_16⟩ : ∃ y : Int32, y = L3l4 + 1 := ⟨_, rfl⟩
    have zx_16 : x_16.toInt = L3l4.toInt + 1 := by rw [ex_16]; exact z_add rfl rfl (by omega) (by omega)
    refine lv_iinc (v := x_16) (lv' := [(4, .int x_16), (0, .ref p0), (1, .int 6), (2, .int p2), (3, .int p3)]) hx hb dX12_copyRow_25 hl (k := 4) rfl (by rw [ex_16]; rfl) (by decide) rfl (fun ls hl => ?_)
    refine lv_goto (tgt := 3) hx hb dX12_copyRow_28 (by decide) ?_
    exact ih_1 _ _ _ _ (by omega) ⟨x_16, g_9, rfl, (show 0 ≤ x_16.toInt ∧ x_16.toInt ≤ 6 from by omega), hp_10, hp_11, hp_12, hp_13, hp_14, hp_15, (show CP 6 p2.toInt p3.toInt x_16.toInt f17 g_9 from by rw [← eg_9, ex_8]; exact CP.step6 hi3x0 (by omega) (by omega) (by omega) (by omega) (by omega) (by omega) (by omega) (by omega)), hP.sub (ws' := [(p0, .inl (k 0, 30, .inl g_9))]) [0] rfl, hD.sub (ws' := [(p0, .inl (k 0, 30, .inl g_9))]) [0] (by decide) rfl, hS, lv_sub hl [1, 2, 3, 4, 0] rfl⟩
set_option maxHeartbeats 4000000 in
set_option maxRecDepth 100000 in
theorem c_X12_copyRow_2 (l : Launch) (D : va_G) (k : Nat → ClassId) (p0 : Nat) (p2 : Int32) (p3 : Int32) (f18 : Nat → Int32) (sz : Nat) (h_p2 : 0 ≤ p2.toInt ∧ p2.toInt ≤ 4) (h_p3 : 0 ≤ p3.toInt ∧ p3.toInt ≤ 4) (hp_f18_0 : PR 250 5 0 0 7 f18) (hp_f18_1 : PR 250 5 1 0 7 f18) (hp_f18_2 : PR 250 5 2 0 60 f18) (hp_f18_3 : PR 250 5 3 0 10 f18) (hne : ¬ p2.toInt = p3.toInt) : Met l yX12_copyRow (ww yX12_copyRow cX12_copyRow 5 none) ({ frames := 0, cells := 0, slots := 0, locals := 0 }) (Pre0 D k [(p0, .inl (k 0, 250, .inl f18))] sz [.ref p0, .int 50, .int p2, .int p3]) (va_Qv (fun (f18z : (Nat → Int32)) => (PR 250 5 0 0 7 f18z) ∧ (PR 250 5 1 0 7 f18z) ∧ (PR 250 5 2 0 60 f18z) ∧ (PR 250 5 3 0 10 f18z) ∧ (CP 50 p2.toInt p3.toInt 50 f18 f18z)) (fun (f18z : (Nat → Int32)) tZ => Bw D k (va_A [(p0, .inl (k 0, 250, .inl f18))] sz) [(p0, .inl (k 0, 250, .inl f18z))] tZ) (va_A [(p0, .inl (k 0, 250, .inl f18))] sz)) 0 0 (va_A [(p0, .inl (k 0, 250, .inl f18))] sz) := by
  refine Met.ofW (cc := cX12_copyRow) (maxL := 5) (ret := none) (by decide +kernel) rfl ?_
  intro p e s m args below meth c s₁ B hml hv
  obtain ⟨rfl, hsz, hP, hK, hD0, hN⟩ := hv
  have hx := B.exec
  have hb := B.bytes
  have hr := B.returns
  have hts : ∀ w ∈ TT, w.before _ s = true := fun w h => atoms_spec (ws := ww yX12_copyRow cX12_copyRow 5 none) B.pre w (List.mem_cons_of_mem _ h)
  have hown : s.vm.findClass RX12 = some m.cls := findClass_of_methodNamed B.named
  have hlocks := B.notSynchronized
  subst hsz
  have hD := hD0.self (sz := s.heap.size)
  generalize hAe : va_A [(p0, .inl (k 0, 250, .inl f18))] s.heap.size = A at hD ⊢
  have hA : ∀ q : Nat, s.heap.size ≤ q → A q := fun q h => by rw [← hAe]; exact Or.inr h
  have hS : va_S A s.heap s.heap [] := va_S.rf
  have hl := lv_entry ([.ref p0, .int 50, .int p2, .int p3]) (n := 5) (Nat.le_of_ble_eq_true rfl)
  rw [lg_entry_eq]
  generalize (lg_sl ([.ref p0, .int 50, .int p2, .int p3]) ++ List.replicate (5 - (lg_sl ([.ref p0, .int 50, .int p2, .int p3])).length) Slot.unset).toArray = ls at hl ⊢
  have hl : lv_has ls 5 [(0, .ref p0), (1, .int 50), (2, .int p2), (3, .int p3)] := hl
  refine lv_iconst (v := 0) hx hb dX12_copyRow_0 (by decide) ?_
  refine lv_istore (lv' := [(4, .int 0), (0, .ref p0), (1, .int 50), (2, .int p2), (3, .int p3)]) hx hb dX12_copyRow_1 hl (by decide) rfl (fun ls hl => ?_)
  refine loop_r (Wg := fun H locs ls => W p l e _ s m _ below meth c H locs _ _ _ (F0 m 3 ls [])) (fun n9 H locs ls => ∃ (L3l4 : Int32) (L3a0 : Nat → Int32), n9 = (50 - L3l4.toInt).toNat ∧ (0 ≤ L3l4.toInt ∧ L3l4.toInt ≤ 50) ∧ (PR 250 5 0 0 7 L3a0) ∧ (PR 250 5 1 0 7 L3a0) ∧ (PR 250 5 2 0 60 L3a0) ∧ (PR 250 5 3 0 10 L3a0) ∧ (CP 50 p2.toInt p3.toInt L3l4.toInt f18 L3a0) ∧ va_P D vwCl [(p0, .inl (k 0, 250, .inl L3a0))] H ∧ va_D A [(p0, .inl (k 0, 250, .inl L3a0))] ∧ va_S A s.heap H locs ∧ lv_has ls 5 [(0, .ref p0), (1, .int 50), (2, .int p2), (3, .int p3), (4, .int L3l4)]) (fun n9 H locs ls hI ih_1 => ?_) _ _ _ _ ⟨0, f18, rfl, (show 0 ≤ 0 ∧ 0 ≤ 50 from by omega), hp_f18_0, hp_f18_1, hp_f18_2, hp_f18_3, (CP.zero _ _ _ _ rfl), hP.sub (ws' := [(p0, .inl (k 0, 250, .inl f18))]) [0] rfl, hD.sub (ws' := [(p0, .inl (k 0, 250, .inl f18))]) [0] (by decide) rfl, hS, lv_sub hl [1, 2, 3, 4, 0] rfl⟩
  clear hP hD hS hl
  obtain ⟨L3l4, L3a0, en_2, zL3l4, L3a0h0, L3a0h1, L3a0h2, L3a0h3, hi3x0, hP, hD, hS, hl⟩ := hI
  refine lv_iload hx hb dX12_copyRow_3 (lv_at hl 4 rfl) ?_
  refine lv_iload_n hx hb dX12_copyRow_5 rfl (lv_at hl 1 rfl) ?_
  refine lv_icmp_ge (tgt := 31) hx hb dX12_copyRow_6 (by decide) (fun h_3 => ?_) (fun h_3 => ?_)
  · skip
    have zh_3 : 50 ≤ L3l4.toInt := z_le h_3
    have hP9 := hP.sub (ws' := [(p0, .inl (k 0, 250, .inl L3a0))]) [0] rfl
    have hD9 := hD.sub (ws' := [(p0, .inl (k 0, 250, .inl L3a0))]) [0] (by decide) rfl
    exact W.vret hx hb hr (fun tZ ht hW => ⟨⟨L3a0, rfl, ⟨L3a0h0, L3a0h1, L3a0h2, L3a0h3, (CP.done hi3x0 (by omega))⟩, by rw [ht]; exact hP9, va_K.moved hW.alike hK, hD9⟩, hS.F ht⟩) hS.2.2 dX12_copyRow_31
  · skip
    have zh_3 : L3l4.toInt < 50 := z_nle h_3
    refine lv_aload_n hx hb dX12_copyRow_9 rfl (lv_at hl 0 rfl) ?_
    refine lv_iload_n hx hb dX12_copyRow_10 rfl (lv_at hl 1 rfl) ?_
    refine lv_iload_n hx hb dX12_copyRow_11 rfl (lv_at hl 3 rfl) ?_
    refine lv_imul hx hb dX12_copyRow_12 ?_
    refine lv_topi (fun x_4 ex_4 => ?_)
    have zx_4 : x_4.toInt = 50 * p3.toInt := by rw [ex_4]; exact z_mul rfl rfl (by omega) (by omega)
    refine lv_iload hx hb dX12_copyRow_13 (lv_at hl 4 rfl) ?_
    refine lv_iadd hx hb dX12_copyRow_15 ?_
    refine lv_topi (fun x_5 ex_5 => ?_)
    have zx_5 : x_5.toInt = x_4.toInt + L3l4.toInt := by rw [ex_5]; exact z_add rfl rfl (by omega) (by omega)
    refine lv_aload_n hx hb dX12_copyRow_16 rfl (lv_at hl 0 rfl) ?_
    refine lv_iload_n hx hb dX12_copyRow_17 rfl (lv_at hl 1 rfl) ?_
    refine lv_iload_n hx hb dX12_copyRow_18 rfl (lv_at hl 2 rfl) ?_
    refine lv_imul hx hb dX12_copyRow_19 ?_
    refine lv_topi (fun x_6 ex_6 => ?_)
    have zx_6 : x_6.toInt = 50 * p2.toInt := by rw [ex_6]; exact z_mul rfl rfl (by omega) (by omega)
    refine lv_iload hx hb dX12_copyRow_20 (lv_at hl 4 rfl) ?_
    refine lv_iadd hx hb dX12_copyRow_22 ?_
    refine lv_topi (fun x_7 ex_7 => ?_)
    have zx_7 : x_7.toInt = x_6.toInt + L3l4.toInt := by rw [ex_7]; exact z_add rfl rfl (by omega) (by omega)
    refine va_iald hx hb hK hP 0 0 rfl rfl (z_in (by omega) (by omega)) dX12_copyRow_23 ?_
    refine lv_topi (fun x_8 ex_8 => ?_)
    refine va_iast hx hb hK hP hD hS 0 0 rfl rfl (z_in (by omega) (by omega)) dX12_copyRow_24 (fun H locs hP hD hS => ?_)
    obtain ⟨g_9, eg_9⟩ : ∃ z : Nat → Int32, upd L3a0 x_5.toNatClampNeg x_8 = z := ⟨_, rfl⟩
    have hP : va_P D vwCl [(p0, .inl (k 0, 250, .inl (upd L3a0 x_5.toNatClampNeg x_8)))] H := hP
    have hD : va_D A [(p0, .inl (k 0, 250, .inl (upd L3a0 x_5.toNatClampNeg x_8)))] := hD
    rw [eg_9] at hP hD
    have hp_10 : PR 250 5 0 0 7 g_9 := by rw [← eg_9]; exact PR.cp L3a0h0 (i := x_7) (j := x_5) ex_8 (by omega) (by omega) (by omega) (by omega)
    have hp_11 : PR 250 5 1 0 7 g_9 := by rw [← eg_9]; exact PR.cp L3a0h1 (i := x_7) (j := x_5) ex_8 (by omega) (by omega) (by omega) (by omega)
    have hp_12 : PR 250 5 2 0 60 g_9 := by rw [← eg_9]; exact PR.cp L3a0h2 (i := x_7) (j := x_5) ex_8 (by omega) (by omega) (by omega) (by omega)
    have hp_13 : PR 250 5 3 0 10 g_9 := by rw [← eg_9]; exact PR.cp L3a0h3 (i := x_7) (j := x_5) ex_8 (by omega) (by omega) (by omega) (by omega)
    obtain ⟨x_14, ex_14⟩ : ∃ y : Int32, y = L3l4 + 1 := ⟨_, rfl⟩
    have zx_14 : x_14.toInt = L3l4.toInt + 1 := by rw [ex_14]; exact z_add rfl rfl (by omega) (by omega)
    refine lv_iinc (v := x_14) (lv' := [(4, .int x_14), (0, .ref p0), (1, .int 50), (2, .int p2), (3, .int p3)]) hx hb dX12_copyRow_25 hl (k := 4) rfl (by rw [ex_14]; rfl) (by decide) rfl (fun ls hl => ?_)
    refine lv_goto (tgt := 3) hx hb dX12_copyRow_28 (by decide) ?_
    exact ih_1 _ _ _ _ (by omega) ⟨x_14, g_9, rfl, (show 0 ≤ x_14.toInt ∧ x_14.toInt ≤ 50 from by omega), hp_10, hp_11, hp_12, hp_13, (show CP 50 p2.toInt p3.toInt x_14.toInt f18 g_9 from by rw [← eg_9, ex_8]; exact CP.step50 hi3x0 (by omega) (by omega) (by omega) (by omega) (by omega) (by omega) (by omega) (by omega)), hP.sub (ws' := [(p0, .inl (k 0, 250, .inl g_9))]) [0] rfl, hD.sub (ws' := [(p0, .inl (k 0, 250, .inl g_9))]) [0] (by decide) rfl, hS, lv_sub hl [1, 2, 3, 4, 0] rfl⟩
set_option maxHeartbeats 4000000 in
set_option maxRecDepth 100000 in
theorem c_X12_copyRow_3 (l : Launch) (D : va_G) (k : Nat → ClassId) (p0 : Nat) (p2 : Int32) (p3 : Int32) (f19 : Nat → Int32) (sz : Nat) (h_p2 : 0 ≤ p2.toInt ∧ p2.toInt ≤ 4) (h_p3 : 0 ≤ p3.toInt ∧ p3.toInt ≤ 4) (hp_f19_0 : PR 40 2 0 0 7 f19) (hp_f19_1 : PR 40 2 1 0 99 f19) : Met l yX12_copyRow (ww yX12_copyRow cX12_copyRow 5 none) ({ frames := 0, cells := 0, slots := 0, locals := 0 }) (Pre0 D k [(p0, .inl (k 0, 40, .inl f19))] sz [.ref p0, .int 8, .int p2, .int p3]) (va_Qv (fun (f19z : (Nat → Int32)) => (PR 40 2 0 0 7 f19z) ∧ (PR 40 2 1 0 99 f19z)) (fun (f19z : (Nat → Int32)) tZ => Bw D k (va_A [(p0, .inl (k 0, 40, .inl f19))] sz) [(p0, .inl (k 0, 40, .inl f19z))] tZ) (va_A [(p0, .inl (k 0, 40, .inl f19))] sz)) 0 0 (va_A [(p0, .inl (k 0, 40, .inl f19))] sz) := by
  refine Met.ofW (cc := cX12_copyRow) (maxL := 5) (ret := none) (by decide +kernel) rfl ?_
  intro p e s m args below meth c s₁ B hml hv
  obtain ⟨rfl, hsz, hP, hK, hD0, hN⟩ := hv
  have hx := B.exec
  have hb := B.bytes
  have hr := B.returns
  have hts : ∀ w ∈ TT, w.before _ s = true := fun w h => atoms_spec (ws := ww yX12_copyRow cX12_copyRow 5 none) B.pre w (List.mem_cons_of_mem _ h)
  have hown : s.vm.findClass RX12 = some m.cls := findClass_of_methodNamed B.named
  have hlocks := B.notSynchronized
  subst hsz
  have hD := hD0.self (sz := s.heap.size)
  generalize hAe : va_A [(p0, .inl (k 0, 40, .inl f19))] s.heap.size = A at hD ⊢
  have hA : ∀ q : Nat, s.heap.size ≤ q → A q := fun q h => by rw [← hAe]; exact Or.inr h
  have hS : va_S A s.heap s.heap [] := va_S.rf
  have hl := lv_entry ([.ref p0, .int 8, .int p2, .int p3]) (n := 5) (Nat.le_of_ble_eq_true rfl)
  rw [lg_entry_eq]
  generalize (lg_sl ([.ref p0, .int 8, .int p2, .int p3]) ++ List.replicate (5 - (lg_sl ([.ref p0, .int 8, .int p2, .int p3])).length) Slot.unset).toArray = ls at hl ⊢
  have hl : lv_has ls 5 [(0, .ref p0), (1, .int 8), (2, .int p2), (3, .int p3)] := hl
  refine lv_iconst (v := 0) hx hb dX12_copyRow_0 (by decide) ?_
  refine lv_istore (lv' := [(4, .int 0), (0, .ref p0), (1, .int 8), (2, .int p2), (3, .int p3)]) hx hb dX12_copyRow_1 hl (by decide) rfl (fun ls hl => ?_)
  refine loop_r (Wg := fun H locs ls => W p l e _ s m _ below meth c H locs _ _ _ (F0 m 3 ls [])) (fun n9 H locs ls => ∃ (L3l4 : Int32) (L3a0 : Nat → Int32), n9 = (8 - L3l4.toInt).toNat ∧ (0 ≤ L3l4.toInt ∧ L3l4.toInt ≤ 8) ∧ (PR 40 2 0 0 7 L3a0) ∧ (PR 40 2 1 0 99 L3a0) ∧ va_P D vwCl [(p0, .inl (k 0, 40, .inl L3a0))] H ∧ va_D A [(p0, .inl (k 0, 40, .inl L3a0))] ∧ va_S A s.heap H locs ∧ lv_has ls 5 [(0, .ref p0), (1, .int 8), (2, .int p2), (3, .int p3), (4, .int L3l4)]) (fun n9 H locs ls hI ih_1 => ?_) _ _ _ _ ⟨0, f19, rfl, (show 0 ≤ 0 ∧ 0 ≤ 8 from by omega), hp_f19_0, hp_f19_1, hP.sub (ws' := [(p0, .inl (k 0, 40, .inl f19))]) [0] rfl, hD.sub (ws' := [(p0, .inl (k 0, 40, .inl f19))]) [0] (by decide) rfl, hS, lv_sub hl [1, 2, 3, 4, 0] rfl⟩
  clear hP hD hS hl
  obtain ⟨L3l4, L3a0, en_2, zL3l4, L3a0h0, L3a0h1, hP, hD, hS, hl⟩ := hI
  refine lv_iload hx hb dX12_copyRow_3 (lv_at hl 4 rfl) ?_
  refine lv_iload_n hx hb dX12_copyRow_5 rfl (lv_at hl 1 rfl) ?_
  refine lv_icmp_ge (tgt := 31) hx hb dX12_copyRow_6 (by decide) (fun h_3 => ?_) (fun h_3 => ?_)
  · skip
    have zh_3 : 8 ≤ L3l4.toInt := z_le h_3
    have hP9 := hP.sub (ws' := [(p0, .inl (k 0, 40, .inl L3a0))]) [0] rfl
    have hD9 := hD.sub (ws' := [(p0, .inl (k 0, 40, .inl L3a0))]) [0] (by decide) rfl
    exact W.vret hx hb hr (fun tZ ht hW => ⟨⟨L3a0, rfl, ⟨L3a0h0, L3a0h1⟩, by rw [ht]; exact hP9, va_K.moved hW.alike hK, hD9⟩, hS.F ht⟩) hS.2.2 dX12_copyRow_31
  · skip
    have zh_3 : L3l4.toInt < 8 := z_nle h_3
    refine lv_aload_n hx hb dX12_copyRow_9 rfl (lv_at hl 0 rfl) ?_
    refine lv_iload_n hx hb dX12_copyRow_10 rfl (lv_at hl 1 rfl) ?_
    refine lv_iload_n hx hb dX12_copyRow_11 rfl (lv_at hl 3 rfl) ?_
    refine lv_imul hx hb dX12_copyRow_12 ?_
    refine lv_topi (fun x_4 ex_4 => ?_)
    have zx_4 : x_4.toInt = 8 * p3.toInt := by rw [ex_4]; exact z_mul rfl rfl (by omega) (by omega)
    refine lv_iload hx hb dX12_copyRow_13 (lv_at hl 4 rfl) ?_
    refine lv_iadd hx hb dX12_copyRow_15 ?_
    refine lv_topi (fun x_5 ex_5 => ?_)
    have zx_5 : x_5.toInt = x_4.toInt + L3l4.toInt := by rw [ex_5]; exact z_add rfl rfl (by omega) (by omega)
    refine lv_aload_n hx hb dX12_copyRow_16 rfl (lv_at hl 0 rfl) ?_
    refine lv_iload_n hx hb dX12_copyRow_17 rfl (lv_at hl 1 rfl) ?_
    refine lv_iload_n hx hb dX12_copyRow_18 rfl (lv_at hl 2 rfl) ?_
    refine lv_imul hx hb dX12_copyRow_19 ?_
    refine lv_topi (fun x_6 ex_6 => ?_)
    have zx_6 : x_6.toInt = 8 * p2.toInt := by rw [ex_6]; exact z_mul rfl rfl (by omega) (by omega)
    refine lv_iload hx hb dX12_copyRow_20 (lv_at hl 4 rfl) ?_
    refine lv_iadd hx hb dX12_copyRow_22 ?_
    refine lv_topi (fun x_7 ex_7 => ?_)
    have zx_7 : x_7.toInt = x_6.toInt + L3l4.toInt := by rw [ex_7]; exact z_add rfl rfl (by omega) (by omega)
    refine va_iald hx hb hK hP 0 0 rfl rfl (z_in (by omega) (by omega)) dX12_copyRow_23 ?_
    refine lv_topi (fun x_8 ex_8 => ?_)
    refine va_iast hx hb hK hP hD hS 0 0 rfl rfl (z_in (by omega) (by omega)) dX12_copyRow_24 (fun H locs hP hD hS => ?_)
    obtain ⟨g_9, eg_9⟩ : ∃ z : Nat → Int32, upd L3a0 x_5.toNatClampNeg x_8 = z := ⟨_, rfl⟩
    have hP : va_P D vwCl [(p0, .inl (k 0, 40, .inl (upd L3a0 x_5.toNatClampNeg x_8)))] H := hP
    have hD : va_D A [(p0, .inl (k 0, 40, .inl (upd L3a0 x_5.toNatClampNeg x_8)))] := hD
    rw [eg_9] at hP hD
    have hp_10 : PR 40 2 0 0 7 g_9 := by rw [← eg_9]; exact PR.cp L3a0h0 (i := x_7) (j := x_5) ex_8 (by omega) (by omega) (by omega) (by omega)
    have hp_11 : PR 40 2 1 0 99 g_9 := by rw [← eg_9]; exact PR.cp L3a0h1 (i := x_7) (j := x_5) ex_8 (by omega) (by omega) (by omega) (by omega)
    obtain ⟨x_12, ex_12⟩ : ∃ y : Int32, y = L3l4 + 1 := ⟨_, rfl⟩
    have zx_12 : x_12.toInt = L3l4.toInt + 1 := by rw [ex_12]; exact z_add rfl rfl (by omega) (by omega)
    refine lv_iinc (v := x_12) (lv' := [(4, .int x_12), (0, .ref p0), (1, .int 8), (2, .int p2), (3, .int p3)]) hx hb dX12_copyRow_25 hl (k := 4) rfl (by rw [ex_12]; rfl) (by decide) rfl (fun ls hl => ?_)
    refine lv_goto (tgt := 3) hx hb dX12_copyRow_28 (by decide) ?_
    exact ih_1 _ _ _ _ (by omega) ⟨x_12, g_9, rfl, (show 0 ≤ x_12.toInt ∧ x_12.toInt ≤ 8 from by omega), hp_10, hp_11, hP.sub (ws' := [(p0, .inl (k 0, 40, .inl g_9))]) [0] rfl, hD.sub (ws' := [(p0, .inl (k 0, 40, .inl g_9))]) [0] (by decide) rfl, hS, lv_sub hl [1, 2, 3, 4, 0] rfl⟩
set_option maxHeartbeats 4000000 in
set_option maxRecDepth 100000 in
theorem c_X12_copyRow_4 (l : Launch) (D : va_G) (k : Nat → ClassId) (p0 : Nat) (p2 : Int32) (p3 : Int32) (f20 : Nat → Int32) (sz : Nat) (h_p2 : 0 ≤ p2.toInt ∧ p2.toInt ≤ 4) (h_p3 : 0 ≤ p3.toInt ∧ p3.toInt ≤ 4) (hp_f20_0 : PR 120 4 0 0 7 f20) : Met l yX12_copyRow (ww yX12_copyRow cX12_copyRow 5 none) ({ frames := 0, cells := 0, slots := 0, locals := 0 }) (Pre0 D k [(p0, .inl (k 0, 120, .inl f20))] sz [.ref p0, .int 24, .int p2, .int p3]) (va_Qv (fun (f20z : (Nat → Int32)) => (PR 120 4 0 0 7 f20z)) (fun (f20z : (Nat → Int32)) tZ => Bw D k (va_A [(p0, .inl (k 0, 120, .inl f20))] sz) [(p0, .inl (k 0, 120, .inl f20z))] tZ) (va_A [(p0, .inl (k 0, 120, .inl f20))] sz)) 0 0 (va_A [(p0, .inl (k 0, 120, .inl f20))] sz) := by
  refine Met.ofW (cc := cX12_copyRow) (maxL := 5) (ret := none) (by decide +kernel) rfl ?_
  intro p e s m args below meth c s₁ B hml hv
  obtain ⟨rfl, hsz, hP, hK, hD0, hN⟩ := hv
  have hx := B.exec
  have hb := B.bytes
  have hr := B.returns
  have hts : ∀ w ∈ TT, w.before _ s = true := fun w h => atoms_spec (ws := ww yX12_copyRow cX12_copyRow 5 none) B.pre w (List.mem_cons_of_mem _ h)
  have hown : s.vm.findClass RX12 = some m.cls := findClass_of_methodNamed B.named
  have hlocks := B.notSynchronized
  subst hsz
  have hD := hD0.self (sz := s.heap.size)
  generalize hAe : va_A [(p0, .inl (k 0, 120, .inl f20))] s.heap.size = A at hD ⊢
  have hA : ∀ q : Nat, s.heap.size ≤ q → A q := fun q h => by rw [← hAe]; exact Or.inr h
  have hS : va_S A s.heap s.heap [] := va_S.rf
  have hl := lv_entry ([.ref p0, .int 24, .int p2, .int p3]) (n := 5) (Nat.le_of_ble_eq_true rfl)
  rw [lg_entry_eq]
  generalize (lg_sl ([.ref p0, .int 24, .int p2, .int p3]) ++ List.replicate (5 - (lg_sl ([.ref p0, .int 24, .int p2, .int p3])).length) Slot.unset).toArray = ls at hl ⊢
  have hl : lv_has ls 5 [(0, .ref p0), (1, .int 24), (2, .int p2), (3, .int p3)] := hl
  refine lv_iconst (v := 0) hx hb dX12_copyRow_0 (by decide) ?_
  refine lv_istore (lv' := [(4, .int 0), (0, .ref p0), (1, .int 24), (2, .int p2), (3, .int p3)]) hx hb dX12_copyRow_1 hl (by decide) rfl (fun ls hl => ?_)
  refine loop_r (Wg := fun H locs ls => W p l e _ s m _ below meth c H locs _ _ _ (F0 m 3 ls [])) (fun n9 H locs ls => ∃ (L3l4 : Int32) (L3a0 : Nat → Int32), n9 = (24 - L3l4.toInt).toNat ∧ (0 ≤ L3l4.toInt ∧ L3l4.toInt ≤ 24) ∧ (PR 120 4 0 0 7 L3a0) ∧ va_P D vwCl [(p0, .inl (k 0, 120, .inl L3a0))] H ∧ va_D A [(p0, .inl (k 0, 120, .inl L3a0))] ∧ va_S A s.heap H locs ∧ lv_has ls 5 [(0, .ref p0), (1, .int 24), (2, .int p2), (3, .int p3), (4, .int L3l4)]) (fun n9 H locs ls hI ih_1 => ?_) _ _ _ _ ⟨0, f20, rfl, (show 0 ≤ 0 ∧ 0 ≤ 24 from by omega), hp_f20_0, hP.sub (ws' := [(p0, .inl (k 0, 120, .inl f20))]) [0] rfl, hD.sub (ws' := [(p0, .inl (k 0, 120, .inl f20))]) [0] (by decide) rfl, hS, lv_sub hl [1, 2, 3, 4, 0] rfl⟩
  clear hP hD hS hl
  obtain ⟨L3l4, L3a0, en_2, zL3l4, L3a0h0, hP, hD, hS, hl⟩ := hI
  refine lv_iload hx hb dX12_copyRow_3 (lv_at hl 4 rfl) ?_
  refine lv_iload_n hx hb dX12_copyRow_5 rfl (lv_at hl 1 rfl) ?_
  refine lv_icmp_ge (tgt := 31) hx hb dX12_copyRow_6 (by decide) (fun h_3 => ?_) (fun h_3 => ?_)
  · skip
    have zh_3 : 24 ≤ L3l4.toInt := z_le h_3
    have hP9 := hP.sub (ws' := [(p0, .inl (k 0, 120, .inl L3a0))]) [0] rfl
    have hD9 := hD.sub (ws' := [(p0, .inl (k 0, 120, .inl L3a0))]) [0] (by decide) rfl
    exact W.vret hx hb hr (fun tZ ht hW => ⟨⟨L3a0, rfl, L3a0h0, by rw [ht]; exact hP9, va_K.moved hW.alike hK, hD9⟩, hS.F ht⟩) hS.2.2 dX12_copyRow_31
  · skip
    have zh_3 : L3l4.toInt < 24 := z_nle h_3
    refine lv_aload_n hx hb dX12_copyRow_9 rfl (lv_at hl 0 rfl) ?_
    refine lv_iload_n hx hb dX12_copyRow_10 rfl (lv_at hl 1 rfl) ?_
    refine lv_iload_n hx hb dX12_copyRow_11 rfl (lv_at hl 3 rfl) ?_
    refine lv_imul hx hb dX12_copyRow_12 ?_
    refine lv_topi (fun x_4 ex_4 => ?_)
    have zx_4 : x_4.toInt = 24 * p3.toInt := by rw [ex_4]; exact z_mul rfl rfl (by omega) (by omega)
    refine lv_iload hx hb dX12_copyRow_13 (lv_at hl 4 rfl) ?_
    refine lv_iadd hx hb dX12_copyRow_15 ?_
    refine lv_topi (fun x_5 ex_5 => ?_)
    have zx_5 : x_5.toInt = x_4.toInt + L3l4.toInt := by rw [ex_5]; exact z_add rfl rfl (by omega) (by omega)
    refine lv_aload_n hx hb dX12_copyRow_16 rfl (lv_at hl 0 rfl) ?_
    refine lv_iload_n hx hb dX12_copyRow_17 rfl (lv_at hl 1 rfl) ?_
    refine lv_iload_n hx hb dX12_copyRow_18 rfl (lv_at hl 2 rfl) ?_
    refine lv_imul hx hb dX12_copyRow_19 ?_
    refine lv_topi (fun x_6 ex_6 => ?_)
    have zx_6 : x_6.toInt = 24 * p2.toInt := by rw [ex_6]; exact z_mul rfl rfl (by omega) (by omega)
    refine lv_iload hx hb dX12_copyRow_20 (lv_at hl 4 rfl) ?_
    refine lv_iadd hx hb dX12_copyRow_22 ?_
    refine lv_topi (fun x_7 ex_7 => ?_)
    have zx_7 : x_7.toInt = x_6.toInt + L3l4.toInt := by rw [ex_7]; exact z_add rfl rfl (by omega) (by omega)
    refine va_iald hx hb hK hP 0 0 rfl rfl (z_in (by omega) (by omega)) dX12_copyRow_23 ?_
    refine lv_topi (fun x_8 ex_8 => ?_)
    refine va_iast hx hb hK hP hD hS 0 0 rfl rfl (z_in (by omega) (by omega)) dX12_copyRow_24 (fun H locs hP hD hS => ?_)
    obtain ⟨g_9, eg_9⟩ : ∃ z : Nat → Int32, upd L3a0 x_5.toNatClampNeg x_8 = z := ⟨_, rfl⟩
    have hP : va_P D vwCl [(p0, .inl (k 0, 120, .inl (upd L3a0 x_5.toNatClampNeg x_8)))] H := hP
    have hD : va_D A [(p0, .inl (k 0, 120, .inl (upd L3a0 x_5.toNatClampNeg x_8)))] := hD
    rw [eg_9] at hP hD
    have hp_10 : PR 120 4 0 0 7 g_9 := by rw [← eg_9]; exact PR.cp L3a0h0 (i := x_7) (j := x_5) ex_8 (by omega) (by omega) (by omega) (by omega)
    obtain ⟨x_11, ex_11⟩ : ∃ y : Int32, y = L3l4 + 1 := ⟨_, rfl⟩
    have zx_11 : x_11.toInt = L3l4.toInt + 1 := by rw [ex_11]; exact z_add rfl rfl (by omega) (by omega)
    refine lv_iinc (v := x_11) (lv' := [(4, .int x_11), (0, .ref p0), (1, .int 24), (2, .int p2), (3, .int p3)]) hx hb dX12_copyRow_25 hl (k := 4) rfl (by rw [ex_11]; rfl) (by decide) rfl (fun ls hl => ?_)
    refine lv_goto (tgt := 3) hx hb dX12_copyRow_28 (by decide) ?_
    exact ih_1 _ _ _ _ (by omega) ⟨x_11, g_9, rfl, (show 0 ≤ x_11.toInt ∧ x_11.toInt ≤ 24 from by omega), hp_10, hP.sub (ws' := [(p0, .inl (k 0, 120, .inl g_9))]) [0] rfl, hD.sub (ws' := [(p0, .inl (k 0, 120, .inl g_9))]) [0] (by decide) rfl, hS, lv_sub hl [1, 2, 3, 4, 0] rfl⟩
set_option maxHeartbeats 4000000 in
set_option maxRecDepth 100000 in
theorem c_X12_copyRow_5 (l : Launch) (D : va_G) (k : Nat → ClassId) (p0 : Nat) (p2 : Int32) (p3 : Int32) (f21 : Nat → Int32) (sz : Nat) (h_p2 : 0 ≤ p2.toInt ∧ p2.toInt ≤ 4) (h_p3 : 0 ≤ p3.toInt ∧ p3.toInt ≤ 4) (hp_f21_0 : PR 20 2 0 0 7 f21) (hp_f21_1 : PR 20 2 1 0 999 f21) : Met l yX12_copyRow (ww yX12_copyRow cX12_copyRow 5 none) ({ frames := 0, cells := 0, slots := 0, locals := 0 }) (Pre0 D k [(p0, .inl (k 0, 20, .inl f21))] sz [.ref p0, .int 4, .int p2, .int p3]) (va_Qv (fun (f21z : (Nat → Int32)) => (PR 20 2 0 0 7 f21z) ∧ (PR 20 2 1 0 999 f21z)) (fun (f21z : (Nat → Int32)) tZ => Bw D k (va_A [(p0, .inl (k 0, 20, .inl f21))] sz) [(p0, .inl (k 0, 20, .inl f21z))] tZ) (va_A [(p0, .inl (k 0, 20, .inl f21))] sz)) 0 0 (va_A [(p0, .inl (k 0, 20, .inl f21))] sz) := by
  refine Met.ofW (cc := cX12_copyRow) (maxL := 5) (ret := none) (by decide +kernel) rfl ?_
  intro p e s m args below meth c s₁ B hml hv
  obtain ⟨rfl, hsz, hP, hK, hD0, hN⟩ := hv
  have hx := B.exec
  have hb := B.bytes
  have hr := B.returns
  have hts : ∀ w ∈ TT, w.before _ s = true := fun w h => atoms_spec (ws := ww yX12_copyRow cX12_copyRow 5 none) B.pre w (List.mem_cons_of_mem _ h)
  have hown : s.vm.findClass RX12 = some m.cls := findClass_of_methodNamed B.named
  have hlocks := B.notSynchronized
  subst hsz
  have hD := hD0.self (sz := s.heap.size)
  generalize hAe : va_A [(p0, .inl (k 0, 20, .inl f21))] s.heap.size = A at hD ⊢
  have hA : ∀ q : Nat, s.heap.size ≤ q → A q := fun q h => by rw [← hAe]; exact Or.inr h
  have hS : va_S A s.heap s.heap [] := va_S.rf
  have hl := lv_entry ([.ref p0, .int 4, .int p2, .int p3]) (n := 5) (Nat.le_of_ble_eq_true rfl)
  rw [lg_entry_eq]
  generalize (lg_sl ([.ref p0, .int 4, .int p2, .int p3]) ++ List.replicate (5 - (lg_sl ([.ref p0, .int 4, .int p2, .int p3])).length) Slot.unset).toArray = ls at hl ⊢
  have hl : lv_has ls 5 [(0, .ref p0), (1, .int 4), (2, .int p2), (3, .int p3)] := hl
  refine lv_iconst (v := 0) hx hb dX12_copyRow_0 (by decide) ?_
  refine lv_istore (lv' := [(4, .int 0), (0, .ref p0), (1, .int 4), (2, .int p2), (3, .int p3)]) hx hb dX12_copyRow_1 hl (by decide) rfl (fun ls hl => ?_)
  refine loop_r (Wg := fun H locs ls => W p l e _ s m _ below meth c H locs _ _ _ (F0 m 3 ls [])) (fun n9 H locs ls => ∃ (L3l4 : Int32) (L3a0 : Nat → Int32), n9 = (4 - L3l4.toInt).toNat ∧ (0 ≤ L3l4.toInt ∧ L3l4.toInt ≤ 4) ∧ (PR 20 2 0 0 7 L3a0) ∧ (PR 20 2 1 0 999 L3a0) ∧ va_P D vwCl [(p0, .inl (k 0, 20, .inl L3a0))] H ∧ va_D A [(p0, .inl (k 0, 20, .inl L3a0))] ∧ va_S A s.heap H locs ∧ lv_has ls 5 [(0, .ref p0), (1, .int 4), (2, .int p2), (3, .int p3), (4, .int L3l4)]) (fun n9 H locs ls hI ih_1 => ?_) _ _ _ _ ⟨0, f21, rfl, (show 0 ≤ 0 ∧ 0 ≤ 4 from by omega), hp_f21_0, hp_f21_1, hP.sub (ws' := [(p0, .inl (k 0, 20, .inl f21))]) [0] rfl, hD.sub (ws' := [(p0, .inl (k 0, 20, .inl f21))]) [0] (by decide) rfl, hS, lv_sub hl [1, 2, 3, 4, 0] rfl⟩
  clear hP hD hS hl
  obtain ⟨L3l4, L3a0, en_2, zL3l4, L3a0h0, L3a0h1, hP, hD, hS, hl⟩ := hI
  refine lv_iload hx hb dX12_copyRow_3 (lv_at hl 4 rfl) ?_
  refine lv_iload_n hx hb dX12_copyRow_5 rfl (lv_at hl 1 rfl) ?_
  refine lv_icmp_ge (tgt := 31) hx hb dX12_copyRow_6 (by decide) (fun h_3 => ?_) (fun h_3 => ?_)
  · skip
    have zh_3 : 4 ≤ L3l4.toInt := z_le h_3
    have hP9 := hP.sub (ws' := [(p0, .inl (k 0, 20, .inl L3a0))]) [0] rfl
    have hD9 := hD.sub (ws' := [(p0, .inl (k 0, 20, .inl L3a0))]) [0] (by decide) rfl
    exact W.vret hx hb hr (fun tZ ht hW => ⟨⟨L3a0, rfl, ⟨L3a0h0, L3a0h1⟩, by rw [ht]; exact hP9, va_K.moved hW.alike hK, hD9⟩, hS.F ht⟩) hS.2.2 dX12_copyRow_31
  · skip
    have zh_3 : L3l4.toInt < 4 := z_nle h_3
    refine lv_aload_n hx hb dX12_copyRow_9 rfl (lv_at hl 0 rfl) ?_
    refine lv_iload_n hx hb dX12_copyRow_10 rfl (lv_at hl 1 rfl) ?_
    refine lv_iload_n hx hb dX12_copyRow_11 rfl (lv_at hl 3 rfl) ?_
    refine lv_imul hx hb dX12_copyRow_12 ?_
    refine lv_topi (fun x_4 ex_4 => ?_)
    have zx_4 : x_4.toInt = 4 * p3.toInt := by rw [ex_4]; exact z_mul rfl rfl (by omega) (by omega)
    refine lv_iload hx hb dX12_copyRow_13 (lv_at hl 4 rfl) ?_
    refine lv_iadd hx hb dX12_copyRow_15 ?_
    refine lv_topi (fun x_5 ex_5 => ?_)
    have zx_5 : x_5.toInt = x_4.toInt + L3l4.toInt := by rw [ex_5]; exact z_add rfl rfl (by omega) (by omega)
    refine lv_aload_n hx hb dX12_copyRow_16 rfl (lv_at hl 0 rfl) ?_
    refine lv_iload_n hx hb dX12_copyRow_17 rfl (lv_at hl 1 rfl) ?_
    refine lv_iload_n hx hb dX12_copyRow_18 rfl (lv_at hl 2 rfl) ?_
    refine lv_imul hx hb dX12_copyRow_19 ?_
    refine lv_topi (fun x_6 ex_6 => ?_)
    have zx_6 : x_6.toInt = 4 * p2.toInt := by rw [ex_6]; exact z_mul rfl rfl (by omega) (by omega)
    refine lv_iload hx hb dX12_copyRow_20 (lv_at hl 4 rfl) ?_
    refine lv_iadd hx hb dX12_copyRow_22 ?_
    refine lv_topi (fun x_7 ex_7 => ?_)
    have zx_7 : x_7.toInt = x_6.toInt + L3l4.toInt := by rw [ex_7]; exact z_add rfl rfl (by omega) (by omega)
    refine va_iald hx hb hK hP 0 0 rfl rfl (z_in (by omega) (by omega)) dX12_copyRow_23 ?_
    refine lv_topi (fun x_8 ex_8 => ?_)
    refine va_iast hx hb hK hP hD hS 0 0 rfl rfl (z_in (by omega) (by omega)) dX12_copyRow_24 (fun H locs hP hD hS => ?_)
    obtain ⟨g_9, eg_9⟩ : ∃ z : Nat → Int32, upd L3a0 x_5.toNatClampNeg x_8 = z := ⟨_, rfl⟩
    have hP : va_P D vwCl [(p0, .inl (k 0, 20, .inl (upd L3a0 x_5.toNatClampNeg x_8)))] H := hP
    have hD : va_D A [(p0, .inl (k 0, 20, .inl (upd L3a0 x_5.toNatClampNeg x_8)))] := hD
    rw [eg_9] at hP hD
    have hp_10 : PR 20 2 0 0 7 g_9 := by rw [← eg_9]; exact PR.cp L3a0h0 (i := x_7) (j := x_5) ex_8 (by omega) (by omega) (by omega) (by omega)
    have hp_11 : PR 20 2 1 0 999 g_9 := by rw [← eg_9]; exact PR.cp L3a0h1 (i := x_7) (j := x_5) ex_8 (by omega) (by omega) (by omega) (by omega)
    obtain ⟨x_12, ex_12⟩ : ∃ y : Int32, y = L3l4 + 1 := ⟨_, rfl⟩
    have zx_12 : x_12.toInt = L3l4.toInt + 1 := by rw [ex_12]; exact z_add rfl rfl (by omega) (by omega)
    refine lv_iinc (v := x_12) (lv' := [(4, .int x_12), (0, .ref p0), (1, .int 4), (2, .int p2), (3, .int p3)]) hx hb dX12_copyRow_25 hl (k := 4) rfl (by rw [ex_12]; rfl) (by decide) rfl (fun ls hl => ?_)
    refine lv_goto (tgt := 3) hx hb dX12_copyRow_28 (by decide) ?_
    exact ih_1 _ _ _ _ (by omega) ⟨x_12, g_9, rfl, (show 0 ≤ x_12.toInt ∧ x_12.toInt ≤ 4 from by omega), hp_10, hp_11, hP.sub (ws' := [(p0, .inl (k 0, 20, .inl g_9))]) [0] rfl, hD.sub (ws' := [(p0, .inl (k 0, 20, .inl g_9))]) [0] (by decide) rfl, hS, lv_sub hl [1, 2, 3, 4, 0] rfl⟩
set_option maxHeartbeats 4000000 in
set_option maxRecDepth 100000 in
theorem c_X12_copyRow_6 (l : Launch) (D : va_G) (k : Nat → ClassId) (p0 : Nat) (p2 : Int32) (p3 : Int32) (f22 : Nat → Int32) (sz : Nat) (h_p2 : 0 ≤ p2.toInt ∧ p2.toInt ≤ 4) (h_p3 : 0 ≤ p3.toInt ∧ p3.toInt ≤ 4) (hp_f22_0 : PR 600 3 1 0 9 f22) (hp_f22_1 : PR 600 3 2 0 99 f22) (hp_f22_2 : AK f22) (hne : ¬ p2.toInt = p3.toInt) : Met l yX12_copyRow (ww yX12_copyRow cX12_copyRow 5 none) ({ frames := 0, cells := 0, slots := 0, locals := 0 }) (Pre0 D k [(p0, .inl (k 0, 600, .inl f22))] sz [.ref p0, .int 120, .int p2, .int p3]) (va_Qv (fun (f22z : (Nat → Int32)) => (PR 600 3 1 0 9 f22z) ∧ (PR 600 3 2 0 99 f22z) ∧ (AK f22z)) (fun (f22z : (Nat → Int32)) tZ => Bw D k (va_A [(p0, .inl (k 0, 600, .inl f22))] sz) [(p0, .inl (k 0, 600, .inl f22z))] tZ) (va_A [(p0, .inl (k 0, 600, .inl f22))] sz)) 0 0 (va_A [(p0, .inl (k 0, 600, .inl f22))] sz) := by
  refine Met.ofW (cc := cX12_copyRow) (maxL := 5) (ret := none) (by decide +kernel) rfl ?_
  intro p e s m args below meth c s₁ B hml hv
  obtain ⟨rfl, hsz, hP, hK, hD0, hN⟩ := hv
  have hx := B.exec
  have hb := B.bytes
  have hr := B.returns
  have hts : ∀ w ∈ TT, w.before _ s = true := fun w h => atoms_spec (ws := ww yX12_copyRow cX12_copyRow 5 none) B.pre w (List.mem_cons_of_mem _ h)
  have hown : s.vm.findClass RX12 = some m.cls := findClass_of_methodNamed B.named
  have hlocks := B.notSynchronized
  subst hsz
  have hD := hD0.self (sz := s.heap.size)
  generalize hAe : va_A [(p0, .inl (k 0, 600, .inl f22))] s.heap.size = A at hD ⊢
  have hA : ∀ q : Nat, s.heap.size ≤ q → A q := fun q h => by rw [← hAe]; exact Or.inr h
  have hS : va_S A s.heap s.heap [] := va_S.rf
  have hl := lv_entry ([.ref p0, .int 120, .int p2, .int p3]) (n := 5) (Nat.le_of_ble_eq_true rfl)
  rw [lg_entry_eq]
  generalize (lg_sl ([.ref p0, .int 120, .int p2, .int p3]) ++ List.replicate (5 - (lg_sl ([.ref p0, .int 120, .int p2, .int p3])).length) Slot.unset).toArray = ls at hl ⊢
  have hl : lv_has ls 5 [(0, .ref p0), (1, .int 120), (2, .int p2), (3, .int p3)] := hl
  refine lv_iconst (v := 0) hx hb dX12_copyRow_0 (by decide) ?_
  refine lv_istore (lv' := [(4, .int 0), (0, .ref p0), (1, .int 120), (2, .int p2), (3, .int p3)]) hx hb dX12_copyRow_1 hl (by decide) rfl (fun ls hl => ?_)
  refine loop_r (Wg := fun H locs ls => W p l e _ s m _ below meth c H locs _ _ _ (F0 m 3 ls [])) (fun n9 H locs ls => ∃ (L3l4 : Int32) (L3a0 : Nat → Int32), n9 = (120 - L3l4.toInt).toNat ∧ (0 ≤ L3l4.toInt ∧ L3l4.toInt ≤ 120) ∧ (PR 600 3 1 0 9 L3a0) ∧ (PR 600 3 2 0 99 L3a0) ∧ (CP 120 p2.toInt p3.toInt L3l4.toInt f22 L3a0) ∧ va_P D vwCl [(p0, .inl (k 0, 600, .inl L3a0))] H ∧ va_D A [(p0, .inl (k 0, 600, .inl L3a0))] ∧ va_S A s.heap H locs ∧ lv_has ls 5 [(0, .ref p0), (1, .int 120), (2, .int p2), (3, .int p3), (4, .int L3l4)]) (fun n9 H locs ls hI ih_1 => ?_) _ _ _ _ ⟨0, f22, rfl, (show 0 ≤ 0 ∧ 0 ≤ 120 from by omega), hp_f22_0, hp_f22_1, (CP.zero _ _ _ _ rfl), hP.sub (ws' := [(p0, .inl (k 0, 600, .inl f22))]) [0] rfl, hD.sub (ws' := [(p0, .inl (k 0, 600, .inl f22))]) [0] (by decide) rfl, hS, lv_sub hl [1, 2, 3, 4, 0] rfl⟩
  clear hP hD hS hl
  obtain ⟨L3l4, L3a0, en_2, zL3l4, L3a0h0, L3a0h1, hi3x0, hP, hD, hS, hl⟩ := hI
  refine lv_iload hx hb dX12_copyRow_3 (lv_at hl 4 rfl) ?_
  refine lv_iload_n hx hb dX12_copyRow_5 rfl (lv_at hl 1 rfl) ?_
  refine lv_icmp_ge (tgt := 31) hx hb dX12_copyRow_6 (by decide) (fun h_3 => ?_) (fun h_3 => ?_)
  · skip
    have zh_3 : 120 ≤ L3l4.toInt := z_le h_3
    have hP9 := hP.sub (ws' := [(p0, .inl (k 0, 600, .inl L3a0))]) [0] rfl
    have hD9 := hD.sub (ws' := [(p0, .inl (k 0, 600, .inl L3a0))]) [0] (by decide) rfl
    exact W.vret hx hb hr (fun tZ ht hW => ⟨⟨L3a0, rfl, ⟨L3a0h0, L3a0h1, (AK.cp hp_f22_2 (k := L3l4.toInt) hi3x0 (by omega) (by omega) (by omega) (by omega) (by omega))⟩, by rw [ht]; exact hP9, va_K.moved hW.alike hK, hD9⟩, hS.F ht⟩) hS.2.2 dX12_copyRow_31
  · skip
    have zh_3 : L3l4.toInt < 120 := z_nle h_3
    refine lv_aload_n hx hb dX12_copyRow_9 rfl (lv_at hl 0 rfl) ?_
    refine lv_iload_n hx hb dX12_copyRow_10 rfl (lv_at hl 1 rfl) ?_
    refine lv_iload_n hx hb dX12_copyRow_11 rfl (lv_at hl 3 rfl) ?_
    refine lv_imul hx hb dX12_copyRow_12 ?_
    refine lv_topi (fun x_4 ex_4 => ?_)
    have zx_4 : x_4.toInt = 120 * p3.toInt := by rw [ex_4]; exact z_mul rfl rfl (by omega) (by omega)
    refine lv_iload hx hb dX12_copyRow_13 (lv_at hl 4 rfl) ?_
    refine lv_iadd hx hb dX12_copyRow_15 ?_
    refine lv_topi (fun x_5 ex_5 => ?_)
    have zx_5 : x_5.toInt = x_4.toInt + L3l4.toInt := by rw [ex_5]; exact z_add rfl rfl (by omega) (by omega)
    refine lv_aload_n hx hb dX12_copyRow_16 rfl (lv_at hl 0 rfl) ?_
    refine lv_iload_n hx hb dX12_copyRow_17 rfl (lv_at hl 1 rfl) ?_
    refine lv_iload_n hx hb dX12_copyRow_18 rfl (lv_at hl 2 rfl) ?_
    refine lv_imul hx hb dX12_copyRow_19 ?_
    refine lv_topi (fun x_6 ex_6 => ?_)
    have zx_6 : x_6.toInt = 120 * p2.toInt := by rw [ex_6]; exact z_mul rfl rfl (by omega) (by omega)
    refine lv_iload hx hb dX12_copyRow_20 (lv_at hl 4 rfl) ?_
    refine lv_iadd hx hb dX12_copyRow_22 ?_
    refine lv_topi (fun x_7 ex_7 => ?_)
    have zx_7 : x_7.toInt = x_6.toInt + L3l4.toInt := by rw [ex_7]; exact z_add rfl rfl (by omega) (by omega)
    refine va_iald hx hb hK hP 0 0 rfl rfl (z_in (by omega) (by omega)) dX12_copyRow_23 ?_
    refine lv_topi (fun x_8 ex_8 => ?_)
    refine va_iast hx hb hK hP hD hS 0 0 rfl rfl (z_in (by omega) (by omega)) dX12_copyRow_24 (fun H locs hP hD hS => ?_)
    obtain ⟨g_9, eg_9⟩ : ∃ z : Nat → Int32, upd L3a0 x_5.toNatClampNeg x_8 = z := ⟨_, rfl⟩
    have hP : va_P D vwCl [(p0, .inl (k 0, 600, .inl (upd L3a0 x_5.toNatClampNeg x_8)))] H := hP
    have hD : va_D A [(p0, .inl (k 0, 600, .inl (upd L3a0 x_5.toNatClampNeg x_8)))] := hD
    rw [eg_9] at hP hD
    have hp_10 : PR 600 3 1 0 9 g_9 := by rw [← eg_9]; exact PR.cp L3a0h0 (i := x_7) (j := x_5) ex_8 (by omega) (by omega) (by omega) (by omega)
    have hp_11 : PR 600 3 2 0 99 g_9 := by rw [← eg_9]; exact PR.cp L3a0h1 (i := x_7) (j := x_5) ex_8 (by omega) (by omega) (by omega) (by omega)
    obtain ⟨x_12, ex_12⟩ : ∃ y : Int32, y = L3l4 + 1 := ⟨_, rfl⟩
    have zx_12 : x_12.toInt = L3l4.toInt + 1 := by rw [ex_12]; exact z_add rfl rfl (by omega) (by omega)
    refine lv_iinc (v := x_12) (lv' := [(4, .int x_12), (0, .ref p0), (1, .int 120), (2, .int p2), (3, .int p3)]) hx hb dX12_copyRow_25 hl (k := 4) rfl (by rw [ex_12]; rfl) (by decide) rfl (fun ls hl => ?_)
    refine lv_goto (tgt := 3) hx hb dX12_copyRow_28 (by decide) ?_
    exact ih_1 _ _ _ _ (by omega) ⟨x_12, g_9, rfl, (show 0 ≤ x_12.toInt ∧ x_12.toInt ≤ 120 from by omega), hp_10, hp_11, (show CP 120 p2.toInt p3.toInt x_12.toInt f22 g_9 from by rw [← eg_9, ex_8]; exact CP.step hi3x0 (by omega) (by omega) (by omega) (by omega) (by omega) (by omega) (by omega) (by omega)), hP.sub (ws' := [(p0, .inl (k 0, 600, .inl g_9))]) [0] rfl, hD.sub (ws' := [(p0, .inl (k 0, 600, .inl g_9))]) [0] (by decide) rfl, hS, lv_sub hl [1, 2, 3, 4, 0] rfl⟩
set_option maxHeartbeats 4000000 in
set_option maxRecDepth 100000 in
theorem c_X12_copyTown (l : Launch) (D : va_G) (k : Nat → ClassId) (mo : Nat) (p0 : Int32) (p1 : Int32) (v0 : Int32) (m1 : Nat) (m2 : Nat) (m3 : Nat) (m4 : Nat) (m5 : Nat) (v6 : Int32) (v7 : Int32) (v8 : Int32) (v9 : Int32) (v10 : Int32) (v11 : Int64) (v12 : Int32) (v13 : Int32) (v14 : Int32) (v15 : Int32) (m16 : Nat) (m17 : Nat) (m18 : Nat) (m19 : Nat) (m20 : Nat) (m21 : Nat) (m22 : Nat) (m23 : Nat) (v24 : Int32) (m25 : Nat) (m26 : Nat) (m27 : Nat) (m28 : Nat) (m29 : Nat) (v30 : Int32) (m31 : Nat) (m32 : Nat) (m33 : Nat) (v34 : Int32) (v35 : Int32) (v36 : Int32) (m37 : Nat) (m38 : Nat) (m39 : Nat) (m40 : Nat) (v41 : Int64) (f16 : Nat → Int32) (f17 : Nat → Int32) (f18 : Nat → Int32) (f19 : Nat → Int32) (f20 : Nat → Int32) (f21 : Nat → Int32) (f22 : Nat → Int32) (sz : Nat) (h_p0 : 0 ≤ p0.toInt ∧ p0.toInt ≤ 4) (h_p1 : 0 ≤ p1.toInt ∧ p1.toInt ≤ 4) (h_v6 : 0 ≤ v6.toInt ∧ v6.toInt ≤ 1000) (h_v24 : 0 ≤ v24.toInt ∧ v24.toInt ≤ 1023) (hp_f17_0 : PR 30 6 0 0 8 f17) (hp_f17_1 : PR 30 6 1 0 10 f17) (hp_f17_2 : PR 30 6 2 0 4 f17) (hp_f17_3 : PR 30 6 3 0 6 f17) (hp_f17_4 : PR 30 6 4 0 2 f17) (hp_f17_5 : PR 30 6 5 0 40 f17) (hp_f18_0 : PR 250 5 0 0 7 f18) (hp_f18_1 : PR 250 5 1 0 7 f18) (hp_f18_2 : PR 250 5 2 0 60 f18) (hp_f18_3 : PR 250 5 3 0 10 f18) (hp_f19_0 : PR 40 2 0 0 7 f19) (hp_f19_1 : PR 40 2 1 0 99 f19) (hp_f20_0 : PR 120 4 0 0 7 f20) (hp_f21_0 : PR 20 2 0 0 7 f21) (hp_f21_1 : PR 20 2 1 0 999 f21) (hp_f22_0 : PR 600 3 1 0 9 f22) (hp_f22_1 : PR 600 3 2 0 99 f22) (hp_f22_2 : AK f22) (hne : ¬ p0.toInt = p1.toInt) (hTK : TK f17 f18) : Met l yX12_copyTown (ww yX12_copyTown cX12_copyTown 3 none) ({ frames := 1, cells := 0, slots := 0, locals := 24 }) (Pre0 D k [(mo, .inr (12, [.int v0, .ref m1, .ref m2, .ref m3, .ref m4, .ref m5, .int v6, .int v7, .int v8, .int v9, .int v10, .long v11, .int v12, .int v13, .int v14, .int v15, .ref m16, .ref m17, .ref m18, .ref m19, .ref m20, .ref m21, .ref m22, .ref m23, .int v24, .ref m25, .ref m26, .ref m27, .ref m28, .ref m29, .int v30, .ref m31, .ref m32, .ref m33, .int v34, .int v35, .int v36, .ref m37, .ref m38, .ref m39, .ref m40, .long v41])), (m16, .inl (k 0, 5, .inl f16)), (m17, .inl (k 0, 30, .inl f17)), (m18, .inl (k 0, 250, .inl f18)), (m19, .inl (k 0, 40, .inl f19)), (m20, .inl (k 0, 120, .inl f20)), (m21, .inl (k 0, 20, .inl f21)), (m22, .inl (k 0, 600, .inl f22))] sz [.ref mo, .int p0, .int p1]) (va_Qv (fun (u : (Nat → Int32) × (Nat → Int32) × (Nat → Int32) × (Nat → Int32) × (Nat → Int32) × (Nat → Int32) × (Nat → Int32)) => match u with | (f16z, f17z, f18z, f19z, f20z, f21z, f22z) => (PR 30 6 0 0 8 f17z) ∧ (PR 30 6 1 0 10 f17z) ∧ (PR 30 6 2 0 4 f17z) ∧ (PR 30 6 3 0 6 f17z) ∧ (PR 30 6 4 0 2 f17z) ∧ (PR 30 6 5 0 40 f17z) ∧ (PR 250 5 0 0 7 f18z) ∧ (PR 250 5 1 0 7 f18z) ∧ (PR 250 5 2 0 60 f18z) ∧ (PR 250 5 3 0 10 f18z) ∧ (PR 40 2 0 0 7 f19z) ∧ (PR 40 2 1 0 99 f19z) ∧ (PR 120 4 0 0 7 f20z) ∧ (PR 20 2 0 0 7 f21z) ∧ (PR 20 2 1 0 999 f21z) ∧ (PR 600 3 1 0 9 f22z) ∧ (PR 600 3 2 0 99 f22z) ∧ (AK f22z) ∧ (TK f17z f18z)) (fun (u : (Nat → Int32) × (Nat → Int32) × (Nat → Int32) × (Nat → Int32) × (Nat → Int32) × (Nat → Int32) × (Nat → Int32)) tZ => match u with | (f16z, f17z, f18z, f19z, f20z, f21z, f22z) => Bw D k (va_A [(mo, .inr (12, [.int v0, .ref m1, .ref m2, .ref m3, .ref m4, .ref m5, .int v6, .int v7, .int v8, .int v9, .int v10, .long v11, .int v12, .int v13, .int v14, .int v15, .ref m16, .ref m17, .ref m18, .ref m19, .ref m20, .ref m21, .ref m22, .ref m23, .int v24, .ref m25, .ref m26, .ref m27, .ref m28, .ref m29, .int v30, .ref m31, .ref m32, .ref m33, .int v34, .int v35, .int v36, .ref m37, .ref m38, .ref m39, .ref m40, .long v41])), (m16, .inl (k 0, 5, .inl f16)), (m17, .inl (k 0, 30, .inl f17)), (m18, .inl (k 0, 250, .inl f18)), (m19, .inl (k 0, 40, .inl f19)), (m20, .inl (k 0, 120, .inl f20)), (m21, .inl (k 0, 20, .inl f21)), (m22, .inl (k 0, 600, .inl f22))] sz) [(mo, .inr (12, [.int v0, .ref m1, .ref m2, .ref m3, .ref m4, .ref m5, .int v6, .int v7, .int v8, .int v9, .int v10, .long v11, .int v12, .int v13, .int v14, .int v15, .ref m16, .ref m17, .ref m18, .ref m19, .ref m20, .ref m21, .ref m22, .ref m23, .int v24, .ref m25, .ref m26, .ref m27, .ref m28, .ref m29, .int v30, .ref m31, .ref m32, .ref m33, .int v34, .int v35, .int v36, .ref m37, .ref m38, .ref m39, .ref m40, .long v41])), (m16, .inl (k 0, 5, .inl f16z)), (m17, .inl (k 0, 30, .inl f17z)), (m18, .inl (k 0, 250, .inl f18z)), (m19, .inl (k 0, 40, .inl f19z)), (m20, .inl (k 0, 120, .inl f20z)), (m21, .inl (k 0, 20, .inl f21z)), (m22, .inl (k 0, 600, .inl f22z))] tZ) (va_A [(mo, .inr (12, [.int v0, .ref m1, .ref m2, .ref m3, .ref m4, .ref m5, .int v6, .int v7, .int v8, .int v9, .int v10, .long v11, .int v12, .int v13, .int v14, .int v15, .ref m16, .ref m17, .ref m18, .ref m19, .ref m20, .ref m21, .ref m22, .ref m23, .int v24, .ref m25, .ref m26, .ref m27, .ref m28, .ref m29, .int v30, .ref m31, .ref m32, .ref m33, .int v34, .int v35, .int v36, .ref m37, .ref m38, .ref m39, .ref m40, .long v41])), (m16, .inl (k 0, 5, .inl f16)), (m17, .inl (k 0, 30, .inl f17)), (m18, .inl (k 0, 250, .inl f18)), (m19, .inl (k 0, 40, .inl f19)), (m20, .inl (k 0, 120, .inl f20)), (m21, .inl (k 0, 20, .inl f21)), (m22, .inl (k 0, 600, .inl f22))] sz)) 0 0 (va_A [(mo, .inr (12, [.int v0, .ref m1, .ref m2, .ref m3, .ref m4, .ref m5, .int v6, .int v7, .int v8, .int v9, .int v10, .long v11, .int v12, .int v13, .int v14, .int v15, .ref m16, .ref m17, .ref m18, .ref m19, .ref m20, .ref m21, .ref m22, .ref m23, .int v24, .ref m25, .ref m26, .ref m27, .ref m28, .ref m29, .int v30, .ref m31, .ref m32, .ref m33, .int v34, .int v35, .int v36, .ref m37, .ref m38, .ref m39, .ref m40, .long v41])), (m16, .inl (k 0, 5, .inl f16)), (m17, .inl (k 0, 30, .inl f17)), (m18, .inl (k 0, 250, .inl f18)), (m19, .inl (k 0, 40, .inl f19)), (m20, .inl (k 0, 120, .inl f20)), (m21, .inl (k 0, 20, .inl f21)), (m22, .inl (k 0, 600, .inl f22))] sz) := by
  refine Met.ofW (cc := cX12_copyTown) (maxL := 3) (ret := none) (by decide +kernel) rfl ?_
  intro p e s m args below meth c s₁ B hml hv
  obtain ⟨rfl, hsz, hP, hK, hD0, hN⟩ := hv
  have hx := B.exec
  have hb := B.bytes
  have hr := B.returns
  have hts : ∀ w ∈ TT, w.before _ s = true := fun w h => atoms_spec (ws := ww yX12_copyTown cX12_copyTown 3 none) B.pre w (List.mem_cons_of_mem _ h)
  have hown : s.vm.findClass RX12 = some m.cls := findClass_of_methodNamed B.named
  have hlocks := B.notSynchronized
  subst hsz
  have hD := hD0.self (sz := s.heap.size)
  generalize hAe : va_A [(mo, .inr (12, [.int v0, .ref m1, .ref m2, .ref m3, .ref m4, .ref m5, .int v6, .int v7, .int v8, .int v9, .int v10, .long v11, .int v12, .int v13, .int v14, .int v15, .ref m16, .ref m17, .ref m18, .ref m19, .ref m20, .ref m21, .ref m22, .ref m23, .int v24, .ref m25, .ref m26, .ref m27, .ref m28, .ref m29, .int v30, .ref m31, .ref m32, .ref m33, .int v34, .int v35, .int v36, .ref m37, .ref m38, .ref m39, .ref m40, .long v41])), (m16, .inl (k 0, 5, .inl f16)), (m17, .inl (k 0, 30, .inl f17)), (m18, .inl (k 0, 250, .inl f18)), (m19, .inl (k 0, 40, .inl f19)), (m20, .inl (k 0, 120, .inl f20)), (m21, .inl (k 0, 20, .inl f21)), (m22, .inl (k 0, 600, .inl f22))] s.heap.size = A at hD ⊢
  have hA : ∀ q : Nat, s.heap.size ≤ q → A q := fun q h => by rw [← hAe]; exact Or.inr h
  have hS : va_S A s.heap s.heap [] := va_S.rf
  have hl := lv_entry ([.ref mo, .int p0, .int p1]) (n := 3) (Nat.le_of_ble_eq_true rfl)
  rw [lg_entry_eq]
  generalize (lg_sl ([.ref mo, .int p0, .int p1]) ++ List.replicate (3 - (lg_sl ([.ref mo, .int p0, .int p1])).length) Slot.unset).toArray = ls at hl ⊢
  have hl : lv_has ls 3 [(0, .ref mo), (1, .int p0), (2, .int p1)] := hl
  refine lv_aload_n hx hb dX12_copyTown_0 rfl (lv_at hl 0 rfl) ?_
  refine va_get (D := D) (ci := 12) (v := .ref m16) (C := RX12) (T := TX12) (N := 42) hx hb hts iT_X12 hown hK hP 0 rfl rfl 16 (by decide) (hts _ tw_6_69) (fun _ h9 => h9) rfl dX12_copyTown_1 ?_
  refine lv_iconst (v := 1) hx hb dX12_copyTown_4 (by decide) ?_
  refine lv_iload_n hx hb dX12_copyTown_5 rfl (lv_at hl 1 rfl) ?_
  refine lv_iload_n hx hb dX12_copyTown_6 rfl (lv_at hl 2 rfl) ?_
  have hPc := hP.sub (ws' := [(m16, .inl (k 0, 5, .inl f16))]) [1] rfl
  have hDc := hD.sub (ws' := [(m16, .inl (k 0, 5, .inl f16))]) [1] (by decide) rfl
  have hFc := va_free (wc := [(m16, .inl (k 0, 5, .inl f16))]) hD hS hA [1] rfl
  refine va_callv (va_runS (As := [.ref m16, .int 1, .int p0, .int p1]) (rest := []) ⟨hx, hb, hml, hown, hts⟩ (c_X12_copyRow_0 l D k m16 p0 p1 f16 s.heap.size (show 0 ≤ p0.toInt ∧ p0.toInt ≤ 4 from by omega) (show 0 ≤ p1.toInt ∧ p1.toInt ≤ 4 from by omega)) (va_cwS 4 hts (gS tw_7_91 tw_7_92 tw_1_13 tw_7_93) rfl rfl rfl hdS_X12_copyRow ⟨Nat.le_of_ble_eq_true rfl, Nat.le_of_ble_eq_true rfl⟩) (cz_S hK hPc hDc hN [.ref m16, .int 1, .int p0, .int p1]) rfl rfl hl.1 rfl (lv_room (Nat.le_of_ble_eq_true rfl)) dX12_copyTown_7 ⟨Nat.le_of_ble_eq_true rfl, Nat.le_of_ble_eq_true rfl⟩) hS (fun q _ h => hFc q h) hFc (fun uZ tZ H1 locs ht hvm hw hB hz1 hk1 hS => ?_)
  obtain ⟨o_2, rfl⟩ : ∃ z, z = uZ := ⟨_, rfl⟩
  obtain ⟨hP1, hK1, hD1⟩ := hB
  rw [ht] at hP1
  obtain ⟨hP, hD⟩ := va_join (wr := [(mo, .inr (12, [.int v0, .ref m1, .ref m2, .ref m3, .ref m4, .ref m5, .int v6, .int v7, .int v8, .int v9, .int v10, .long v11, .int v12, .int v13, .int v14, .int v15, .ref m16, .ref m17, .ref m18, .ref m19, .ref m20, .ref m21, .ref m22, .ref m23, .int v24, .ref m25, .ref m26, .ref m27, .ref m28, .ref m29, .int v30, .ref m31, .ref m32, .ref m33, .int v34, .int v35, .int v36, .ref m37, .ref m38, .ref m39, .ref m40, .long v41])), (m17, .inl (k 0, 30, .inl f17)), (m18, .inl (k 0, 250, .inl f18)), (m19, .inl (k 0, 40, .inl f19)), (m20, .inl (k 0, 120, .inl f20)), (m21, .inl (k 0, 20, .inl f21)), (m22, .inl (k 0, 600, .inl f22))]) (w1 := [(m16, .inl (k 0, 5, .inl o_2))]) hP hD [1] [0, 2, 3, 4, 5, 6, 7] rfl rfl (by decide) (by decide) hk1 hFc hP1 hD1
  clear hK1 hP1 hD1 hPc hDc hFc
  clear hk1 hz1 ht hvm
  have hP : va_P D vwCl [(mo, .inr (12, [.int v0, .ref m1, .ref m2, .ref m3, .ref m4, .ref m5, .int v6, .int v7, .int v8, .int v9, .int v10, .long v11, .int v12, .int v13, .int v14, .int v15, .ref m16, .ref m17, .ref m18, .ref m19, .ref m20, .ref m21, .ref m22, .ref m23, .int v24, .ref m25, .ref m26, .ref m27, .ref m28, .ref m29, .int v30, .ref m31, .ref m32, .ref m33, .int v34, .int v35, .int v36, .ref m37, .ref m38, .ref m39, .ref m40, .long v41])), (m17, .inl (k 0, 30, .inl f17)), (m18, .inl (k 0, 250, .inl f18)), (m19, .inl (k 0, 40, .inl f19)), (m20, .inl (k 0, 120, .inl f20)), (m21, .inl (k 0, 20, .inl f21)), (m22, .inl (k 0, 600, .inl f22)), (m16, .inl (k 0, 5, .inl o_2))] H1 := hP
  have hD : va_D A [(mo, .inr (12, [.int v0, .ref m1, .ref m2, .ref m3, .ref m4, .ref m5, .int v6, .int v7, .int v8, .int v9, .int v10, .long v11, .int v12, .int v13, .int v14, .int v15, .ref m16, .ref m17, .ref m18, .ref m19, .ref m20, .ref m21, .ref m22, .ref m23, .int v24, .ref m25, .ref m26, .ref m27, .ref m28, .ref m29, .int v30, .ref m31, .ref m32, .ref m33, .int v34, .int v35, .int v36, .ref m37, .ref m38, .ref m39, .ref m40, .long v41])), (m17, .inl (k 0, 30, .inl f17)), (m18, .inl (k 0, 250, .inl f18)), (m19, .inl (k 0, 40, .inl f19)), (m20, .inl (k 0, 120, .inl f20)), (m21, .inl (k 0, 20, .inl f21)), (m22, .inl (k 0, 600, .inl f22)), (m16, .inl (k 0, 5, .inl o_2))] := hD
  generalize H1 = H at hP hS ⊢
  clear hw
  refine lv_aload_n hx hb dX12_copyTown_10 rfl (lv_at hl 0 rfl) ?_
  refine va_get (D := D) (ci := 12) (v := .ref m17) (C := RX12) (T := TX12) (N := 42) hx hb hts iT_X12 hown hK hP 0 rfl rfl 17 (by decide) (hts _ tw_6_70) (fun _ h9 => h9) rfl dX12_copyTown_11 ?_
  refine lv_bipush (v := 6) hx hb dX12_copyTown_14 (by decide) ?_
  refine lv_iload_n hx hb dX12_copyTown_16 rfl (lv_at hl 1 rfl) ?_
  refine lv_iload_n hx hb dX12_copyTown_17 rfl (lv_at hl 2 rfl) ?_
  have hPc := hP.sub (ws' := [(m17, .inl (k 0, 30, .inl f17))]) [1] rfl
  have hDc := hD.sub (ws' := [(m17, .inl (k 0, 30, .inl f17))]) [1] (by decide) rfl
  have hFc := va_free (wc := [(m17, .inl (k 0, 30, .inl f17))]) hD hS hA [1] rfl
  refine va_callv (va_runS (As := [.ref m17, .int 6, .int p0, .int p1]) (rest := []) ⟨hx, hb, hml, hown, hts⟩ (c_X12_copyRow_1 l D k m17 p0 p1 f17 H.size (show 0 ≤ p0.toInt ∧ p0.toInt ≤ 4 from by omega) (show 0 ≤ p1.toInt ∧ p1.toInt ≤ 4 from by omega) hp_f17_0 hp_f17_1 hp_f17_2 hp_f17_3 hp_f17_4 hp_f17_5 (show ¬ p0.toInt = p1.toInt from by omega)) (va_cwS 4 hts (gS tw_7_91 tw_7_92 tw_1_13 tw_7_93) rfl rfl rfl hdS_X12_copyRow ⟨Nat.le_of_ble_eq_true rfl, Nat.le_of_ble_eq_true rfl⟩) (cz_S hK hPc hDc hN [.ref m17, .int 6, .int p0, .int p1]) rfl rfl hl.1 rfl (lv_room (Nat.le_of_ble_eq_true rfl)) dX12_copyTown_18 ⟨Nat.le_of_ble_eq_true rfl, Nat.le_of_ble_eq_true rfl⟩) hS (fun q _ h => hFc q h) hFc (fun uZ tZ H1 locs ht hvm hw hB hz1 hk1 hS => ?_)
  obtain ⟨o_5, rfl⟩ : ∃ z, z = uZ := ⟨_, rfl⟩
  obtain ⟨hP1, hK1, hD1⟩ := hB
  rw [ht] at hP1
  obtain ⟨hP, hD⟩ := va_join (wr := [(mo, .inr (12, [.int v0, .ref m1, .ref m2, .ref m3, .ref m4, .ref m5, .int v6, .int v7, .int v8, .int v9, .int v10, .long v11, .int v12, .int v13, .int v14, .int v15, .ref m16, .ref m17, .ref m18, .ref m19, .ref m20, .ref m21, .ref m22, .ref m23, .int v24, .ref m25, .ref m26, .ref m27, .ref m28, .ref m29, .int v30, .ref m31, .ref m32, .ref m33, .int v34, .int v35, .int v36, .ref m37, .ref m38, .ref m39, .ref m40, .long v41])), (m18, .inl (k 0, 250, .inl f18)), (m19, .inl (k 0, 40, .inl f19)), (m20, .inl (k 0, 120, .inl f20)), (m21, .inl (k 0, 20, .inl f21)), (m22, .inl (k 0, 600, .inl f22)), (m16, .inl (k 0, 5, .inl o_2))]) (w1 := [(m17, .inl (k 0, 30, .inl o_5))]) hP hD [1] [0, 2, 3, 4, 5, 6, 7] rfl rfl (by decide) (by decide) hk1 hFc hP1 hD1
  clear hK1 hP1 hD1 hPc hDc hFc
  clear hk1 hz1 ht hvm
  have hP : va_P D vwCl [(mo, .inr (12, [.int v0, .ref m1, .ref m2, .ref m3, .ref m4, .ref m5, .int v6, .int v7, .int v8, .int v9, .int v10, .long v11, .int v12, .int v13, .int v14, .int v15, .ref m16, .ref m17, .ref m18, .ref m19, .ref m20, .ref m21, .ref m22, .ref m23, .int v24, .ref m25, .ref m26, .ref m27, .ref m28, .ref m29, .int v30, .ref m31, .ref m32, .ref m33, .int v34, .int v35, .int v36, .ref m37, .ref m38, .ref m39, .ref m40, .long v41])), (m18, .inl (k 0, 250, .inl f18)), (m19, .inl (k 0, 40, .inl f19)), (m20, .inl (k 0, 120, .inl f20)), (m21, .inl (k 0, 20, .inl f21)), (m22, .inl (k 0, 600, .inl f22)), (m16, .inl (k 0, 5, .inl o_2)), (m17, .inl (k 0, 30, .inl o_5))] H1 := hP
  have hD : va_D A [(mo, .inr (12, [.int v0, .ref m1, .ref m2, .ref m3, .ref m4, .ref m5, .int v6, .int v7, .int v8, .int v9, .int v10, .long v11, .int v12, .int v13, .int v14, .int v15, .ref m16, .ref m17, .ref m18, .ref m19, .ref m20, .ref m21, .ref m22, .ref m23, .int v24, .ref m25, .ref m26, .ref m27, .ref m28, .ref m29, .int v30, .ref m31, .ref m32, .ref m33, .int v34, .int v35, .int v36, .ref m37, .ref m38, .ref m39, .ref m40, .long v41])), (m18, .inl (k 0, 250, .inl f18)), (m19, .inl (k 0, 40, .inl f19)), (m20, .inl (k 0, 120, .inl f20)), (m21, .inl (k 0, 20, .inl f21)), (m22, .inl (k 0, 600, .inl f22)), (m16, .inl (k 0, 5, .inl o_2)), (m17, .inl (k 0, 30, .inl o_5))] := hD
  generalize H1 = H at hP hS ⊢
  have hw_6 : (PR 30 6 0 0 8 o_5) ∧ (PR 30 6 1 0 10 o_5) ∧ (PR 30 6 2 0 4 o_5) ∧ (PR 30 6 3 0 6 o_5) ∧ (PR 30 6 4 0 2 o_5) ∧ (PR 30 6 5 0 40 o_5) ∧ (CP 6 p0.toInt p1.toInt 6 f17 o_5) := hw
  obtain ⟨hw_7, hw_8, hw_9, hw_10, hw_11, hw_12, hw_13⟩ := hw_6
  clear hw
  refine lv_aload_n hx hb dX12_copyTown_21 rfl (lv_at hl 0 rfl) ?_
  refine va_get (D := D) (ci := 12) (v := .ref m18) (C := RX12) (T := TX12) (N := 42) hx hb hts iT_X12 hown hK hP 0 rfl rfl 18 (by decide) (hts _ tw_6_71) (fun _ h9 => h9) rfl dX12_copyTown_22 ?_
  refine lv_bipush (v := 50) hx hb dX12_copyTown_25 (by decide) ?_
  refine lv_iload_n hx hb dX12_copyTown_27 rfl (lv_at hl 1 rfl) ?_
  refine lv_iload_n hx hb dX12_copyTown_28 rfl (lv_at hl 2 rfl) ?_
  have hPc := hP.sub (ws' := [(m18, .inl (k 0, 250, .inl f18))]) [1] rfl
  have hDc := hD.sub (ws' := [(m18, .inl (k 0, 250, .inl f18))]) [1] (by decide) rfl
  have hFc := va_free (wc := [(m18, .inl (k 0, 250, .inl f18))]) hD hS hA [1] rfl
  refine va_callv (va_runS (As := [.ref m18, .int 50, .int p0, .int p1]) (rest := []) ⟨hx, hb, hml, hown, hts⟩ (c_X12_copyRow_2 l D k m18 p0 p1 f18 H.size (show 0 ≤ p0.toInt ∧ p0.toInt ≤ 4 from by omega) (show 0 ≤ p1.toInt ∧ p1.toInt ≤ 4 from by omega) hp_f18_0 hp_f18_1 hp_f18_2 hp_f18_3 (show ¬ p0.toInt = p1.toInt from by omega)) (va_cwS 4 hts (gS tw_7_91 tw_7_92 tw_1_13 tw_7_93) rfl rfl rfl hdS_X12_copyRow ⟨Nat.le_of_ble_eq_true rfl, Nat.le_of_ble_eq_true rfl⟩) (cz_S hK hPc hDc hN [.ref m18, .int 50, .int p0, .int p1]) rfl rfl hl.1 rfl (lv_room (Nat.le_of_ble_eq_true rfl)) dX12_copyTown_29 ⟨Nat.le_of_ble_eq_true rfl, Nat.le_of_ble_eq_true rfl⟩) hS (fun q _ h => hFc q h) hFc (fun uZ tZ H1 locs ht hvm hw hB hz1 hk1 hS => ?_)
  obtain ⟨o_15, rfl⟩ : ∃ z, z = uZ := ⟨_, rfl⟩
  obtain ⟨hP1, hK1, hD1⟩ := hB
  rw [ht] at hP1
  obtain ⟨hP, hD⟩ := va_join (wr := [(mo, .inr (12, [.int v0, .ref m1, .ref m2, .ref m3, .ref m4, .ref m5, .int v6, .int v7, .int v8, .int v9, .int v10, .long v11, .int v12, .int v13, .int v14, .int v15, .ref m16, .ref m17, .ref m18, .ref m19, .ref m20, .ref m21, .ref m22, .ref m23, .int v24, .ref m25, .ref m26, .ref m27, .ref m28, .ref m29, .int v30, .ref m31, .ref m32, .ref m33, .int v34, .int v35, .int v36, .ref m37, .ref m38, .ref m39, .ref m40, .long v41])), (m19, .inl (k 0, 40, .inl f19)), (m20, .inl (k 0, 120, .inl f20)), (m21, .inl (k 0, 20, .inl f21)), (m22, .inl (k 0, 600, .inl f22)), (m16, .inl (k 0, 5, .inl o_2)), (m17, .inl (k 0, 30, .inl o_5))]) (w1 := [(m18, .inl (k 0, 250, .inl o_15))]) hP hD [1] [0, 2, 3, 4, 5, 6, 7] rfl rfl (by decide) (by decide) hk1 hFc hP1 hD1
  clear hK1 hP1 hD1 hPc hDc hFc
  clear hk1 hz1 ht hvm
  have hP : va_P D vwCl [(mo, .inr (12, [.int v0, .ref m1, .ref m2, .ref m3, .ref m4, .ref m5, .int v6, .int v7, .int v8, .int v9, .int v10, .long v11, .int v12, .int v13, .int v14, .int v15, .ref m16, .ref m17, .ref m18, .ref m19, .ref m20, .ref m21, .ref m22, .ref m23, .int v24, .ref m25, .ref m26, .ref m27, .ref m28, .ref m29, .int v30, .ref m31, .ref m32, .ref m33, .int v34, .int v35, .int v36, .ref m37, .ref m38, .ref m39, .ref m40, .long v41])), (m19, .inl (k 0, 40, .inl f19)), (m20, .inl (k 0, 120, .inl f20)), (m21, .inl (k 0, 20, .inl f21)), (m22, .inl (k 0, 600, .inl f22)), (m16, .inl (k 0, 5, .inl o_2)), (m17, .inl (k 0, 30, .inl o_5)), (m18, .inl (k 0, 250, .inl o_15))] H1 := hP
  have hD : va_D A [(mo, .inr (12, [.int v0, .ref m1, .ref m2, .ref m3, .ref m4, .ref m5, .int v6, .int v7, .int v8, .int v9, .int v10, .long v11, .int v12, .int v13, .int v14, .int v15, .ref m16, .ref m17, .ref m18, .ref m19, .ref m20, .ref m21, .ref m22, .ref m23, .int v24, .ref m25, .ref m26, .ref m27, .ref m28, .ref m29, .int v30, .ref m31, .ref m32, .ref m33, .int v34, .int v35, .int v36, .ref m37, .ref m38, .ref m39, .ref m40, .long v41])), (m19, .inl (k 0, 40, .inl f19)), (m20, .inl (k 0, 120, .inl f20)), (m21, .inl (k 0, 20, .inl f21)), (m22, .inl (k 0, 600, .inl f22)), (m16, .inl (k 0, 5, .inl o_2)), (m17, .inl (k 0, 30, .inl o_5)), (m18, .inl (k 0, 250, .inl o_15))] := hD
  generalize H1 = H at hP hS ⊢
  have hw_16 : (PR 250 5 0 0 7 o_15) ∧ (PR 250 5 1 0 7 o_15) ∧ (PR 250 5 2 0 60 o_15) ∧ (PR 250 5 3 0 10 o_15) ∧ (CP 50 p0.toInt p1.toInt 50 f18 o_15) := hw
  obtain ⟨hw_17, hw_18, hw_19, hw_20, hw_21⟩ := hw_16
  clear hw
  refine lv_aload_n hx hb dX12_copyTown_32 rfl (lv_at hl 0 rfl) ?_
  refine va_get (D := D) (ci := 12) (v := .ref m19) (C := RX12) (T := TX12) (N := 42) hx hb hts iT_X12 hown hK hP 0 rfl rfl 19 (by decide) (hts _ tw_6_72) (fun _ h9 => h9) rfl dX12_copyTown_33 ?_
  refine lv_bipush (v := 8) hx hb dX12_copyTown_36 (by decide) ?_
  refine lv_iload_n hx hb dX12_copyTown_38 rfl (lv_at hl 1 rfl) ?_
  refine lv_iload_n hx hb dX12_copyTown_39 rfl (lv_at hl 2 rfl) ?_
  have hPc := hP.sub (ws' := [(m19, .inl (k 0, 40, .inl f19))]) [1] rfl
  have hDc := hD.sub (ws' := [(m19, .inl (k 0, 40, .inl f19))]) [1] (by decide) rfl
  have hFc := va_free (wc := [(m19, .inl (k 0, 40, .inl f19))]) hD hS hA [1] rfl
  refine va_callv (va_runS (As := [.ref m19, .int 8, .int p0, .int p1]) (rest := []) ⟨hx, hb, hml, hown, hts⟩ (c_X12_copyRow_3 l D k m19 p0 p1 f19 H.size (show 0 ≤ p0.toInt ∧ p0.toInt ≤ 4 from by omega) (show 0 ≤ p1.toInt ∧ p1.toInt ≤ 4 from by omega) hp_f19_0 hp_f19_1) (va_cwS 4 hts (gS tw_7_91 tw_7_92 tw_1_13 tw_7_93) rfl rfl rfl hdS_X12_copyRow ⟨Nat.le_of_ble_eq_true rfl, Nat.le_of_ble_eq_true rfl⟩) (cz_S hK hPc hDc hN [.ref m19, .int 8, .int p0, .int p1]) rfl rfl hl.1 rfl (lv_room (Nat.le_of_ble_eq_true rfl)) dX12_copyTown_40 ⟨Nat.le_of_ble_eq_true rfl, Nat.le_of_ble_eq_true rfl⟩) hS (fun q _ h => hFc q h) hFc (fun uZ tZ H1 locs ht hvm hw hB hz1 hk1 hS => ?_)
  obtain ⟨o_23, rfl⟩ : ∃ z, z = uZ := ⟨_, rfl⟩
  obtain ⟨hP1, hK1, hD1⟩ := hB
  rw [ht] at hP1
  obtain ⟨hP, hD⟩ := va_join (wr := [(mo, .inr (12, [.int v0, .ref m1, .ref m2, .ref m3, .ref m4, .ref m5, .int v6, .int v7, .int v8, .int v9, .int v10, .long v11, .int v12, .int v13, .int v14, .int v15, .ref m16, .ref m17, .ref m18, .ref m19, .ref m20, .ref m21, .ref m22, .ref m23, .int v24, .ref m25, .ref m26, .ref m27, .ref m28, .ref m29, .int v30, .ref m31, .ref m32, .ref m33, .int v34, .int v35, .int v36, .ref m37, .ref m38, .ref m39, .ref m40, .long v41])), (m20, .inl (k 0, 120, .inl f20)), (m21, .inl (k 0, 20, .inl f21)), (m22, .inl (k 0, 600, .inl f22)), (m16, .inl (k 0, 5, .inl o_2)), (m17, .inl (k 0, 30, .inl o_5)), (m18, .inl (k 0, 250, .inl o_15))]) (w1 := [(m19, .inl (k 0, 40, .inl o_23))]) hP hD [1] [0, 2, 3, 4, 5, 6, 7] rfl rfl (by decide) (by decide) hk1 hFc hP1 hD1
  clear hK1 hP1 hD1 hPc hDc hFc
  clear hk1 hz1 ht hvm
  have hP : va_P D vwCl [(mo, .inr (12, [.int v0, .ref m1, .ref m2, .ref m3, .ref m4, .ref m5, .int v6, .int v7, .int v8, .int v9, .int v10, .long v11, .int v12, .int v13, .int v14, .int v15, .ref m16, .ref m17, .ref m18, .ref m19, .ref m20, .ref m21, .ref m22, .ref m23, .int v24, .ref m25, .ref m26, .ref m27, .ref m28, .ref m29, .int v30, .ref m31, .ref m32, .ref m33, .int v34, .int v35, .int v36, .ref m37, .ref m38, .ref m39, .ref m40, .long v41])), (m20, .inl (k 0, 120, .inl f20)), (m21, .inl (k 0, 20, .inl f21)), (m22, .inl (k 0, 600, .inl f22)), (m16, .inl (k 0, 5, .inl o_2)), (m17, .inl (k 0, 30, .inl o_5)), (m18, .inl (k 0, 250, .inl o_15)), (m19, .inl (k 0, 40, .inl o_23))] H1 := hP
  have hD : va_D A [(mo, .inr (12, [.int v0, .ref m1, .ref m2, .ref m3, .ref m4, .ref m5, .int v6, .int v7, .int v8, .int v9, .int v10, .long v11, .int v12, .int v13, .int v14, .int v15, .ref m16, .ref m17, .ref m18, .ref m19, .ref m20, .ref m21, .ref m22, .ref m23, .int v24, .ref m25, .ref m26, .ref m27, .ref m28, .ref m29, .int v30, .ref m31, .ref m32, .ref m33, .int v34, .int v35, .int v36, .ref m37, .ref m38, .ref m39, .ref m40, .long v41])), (m20, .inl (k 0, 120, .inl f20)), (m21, .inl (k 0, 20, .inl f21)), (m22, .inl (k 0, 600, .inl f22)), (m16, .inl (k 0, 5, .inl o_2)), (m17, .inl (k 0, 30, .inl o_5)), (m18, .inl (k 0, 250, .inl o_15)), (m19, .inl (k 0, 40, .inl o_23))] := hD
  generalize H1 = H at hP hS ⊢
  have hw_24 : (PR 40 2 0 0 7 o_23) ∧ (PR 40 2 1 0 99 o_23) := hw
  obtain ⟨hw_25, hw_26⟩ := hw_24
  clear hw
  refine lv_aload_n hx hb dX12_copyTown_43 rfl (lv_at hl 0 rfl) ?_
  refine va_get (D := D) (ci := 12) (v := .ref m20) (C := RX12) (T := TX12) (N := 42) hx hb hts iT_X12 hown hK hP 0 rfl rfl 20 (by decide) (hts _ tw_6_73) (fun _ h9 => h9) rfl dX12_copyTown_44 ?_
  refine lv_bipush (v := 24) hx hb dX12_copyTown_47 (by decide) ?_
  refine lv_iload_n hx hb dX12_copyTown_49 rfl (lv_at hl 1 rfl) ?_
  refine lv_iload_n hx hb dX12_copyTown_50 rfl (lv_at hl 2 rfl) ?_
  have hPc := hP.sub (ws' := [(m20, .inl (k 0, 120, .inl f20))]) [1] rfl
  have hDc := hD.sub (ws' := [(m20, .inl (k 0, 120, .inl f20))]) [1] (by decide) rfl
  have hFc := va_free (wc := [(m20, .inl (k 0, 120, .inl f20))]) hD hS hA [1] rfl
  refine va_callv (va_runS (As := [.ref m20, .int 24, .int p0, .int p1]) (rest := []) ⟨hx, hb, hml, hown, hts⟩ (c_X12_copyRow_4 l D k m20 p0 p1 f20 H.size (show 0 ≤ p0.toInt ∧ p0.toInt ≤ 4 from by omega) (show 0 ≤ p1.toInt ∧ p1.toInt ≤ 4 from by omega) hp_f20_0) (va_cwS 4 hts (gS tw_7_91 tw_7_92 tw_1_13 tw_7_93) rfl rfl rfl hdS_X12_copyRow ⟨Nat.le_of_ble_eq_true rfl, Nat.le_of_ble_eq_true rfl⟩) (cz_S hK hPc hDc hN [.ref m20, .int 24, .int p0, .int p1]) rfl rfl hl.1 rfl (lv_room (Nat.le_of_ble_eq_true rfl)) dX12_copyTown_51 ⟨Nat.le_of_ble_eq_true rfl, Nat.le_of_ble_eq_true rfl⟩) hS (fun q _ h => hFc q h) hFc (fun uZ tZ H1 locs ht hvm hw hB hz1 hk1 hS => ?_)
  obtain ⟨o_28, rfl⟩ : ∃ z, z = uZ := ⟨_, rfl⟩
  obtain ⟨hP1, hK1, hD1⟩ := hB
  rw [ht] at hP1
  obtain ⟨hP, hD⟩ := va_join (wr := [(mo, .inr (12, [.int v0, .ref m1, .ref m2, .ref m3, .ref m4, .ref m5, .int v6, .int v7, .int v8, .int v9, .int v10, .long v11, .int v12, .int v13, .int v14, .int v15, .ref m16, .ref m17, .ref m18, .ref m19, .ref m20, .ref m21, .ref m22, .ref m23, .int v24, .ref m25, .ref m26, .ref m27, .ref m28, .ref m29, .int v30, .ref m31, .ref m32, .ref m33, .int v34, .int v35, .int v36, .ref m37, .ref m38, .ref m39, .ref m40, .long v41])), (m21, .inl (k 0, 20, .inl f21)), (m22, .inl (k 0, 600, .inl f22)), (m16, .inl (k 0, 5, .inl o_2)), (m17, .inl (k 0, 30, .inl o_5)), (m18, .inl (k 0, 250, .inl o_15)), (m19, .inl (k 0, 40, .inl o_23))]) (w1 := [(m20, .inl (k 0, 120, .inl o_28))]) hP hD [1] [0, 2, 3, 4, 5, 6, 7] rfl rfl (by decide) (by decide) hk1 hFc hP1 hD1
  clear hK1 hP1 hD1 hPc hDc hFc
  clear hk1 hz1 ht hvm
  have hP : va_P D vwCl [(mo, .inr (12, [.int v0, .ref m1, .ref m2, .ref m3, .ref m4, .ref m5, .int v6, .int v7, .int v8, .int v9, .int v10, .long v11, .int v12, .int v13, .int v14, .int v15, .ref m16, .ref m17, .ref m18, .ref m19, .ref m20, .ref m21, .ref m22, .ref m23, .int v24, .ref m25, .ref m26, .ref m27, .ref m28, .ref m29, .int v30, .ref m31, .ref m32, .ref m33, .int v34, .int v35, .int v36, .ref m37, .ref m38, .ref m39, .ref m40, .long v41])), (m21, .inl (k 0, 20, .inl f21)), (m22, .inl (k 0, 600, .inl f22)), (m16, .inl (k 0, 5, .inl o_2)), (m17, .inl (k 0, 30, .inl o_5)), (m18, .inl (k 0, 250, .inl o_15)), (m19, .inl (k 0, 40, .inl o_23)), (m20, .inl (k 0, 120, .inl o_28))] H1 := hP
  have hD : va_D A [(mo, .inr (12, [.int v0, .ref m1, .ref m2, .ref m3, .ref m4, .ref m5, .int v6, .int v7, .int v8, .int v9, .int v10, .long v11, .int v12, .int v13, .int v14, .int v15, .ref m16, .ref m17, .ref m18, .ref m19, .ref m20, .ref m21, .ref m22, .ref m23, .int v24, .ref m25, .ref m26, .ref m27, .ref m28, .ref m29, .int v30, .ref m31, .ref m32, .ref m33, .int v34, .int v35, .int v36, .ref m37, .ref m38, .ref m39, .ref m40, .long v41])), (m21, .inl (k 0, 20, .inl f21)), (m22, .inl (k 0, 600, .inl f22)), (m16, .inl (k 0, 5, .inl o_2)), (m17, .inl (k 0, 30, .inl o_5)), (m18, .inl (k 0, 250, .inl o_15)), (m19, .inl (k 0, 40, .inl o_23)), (m20, .inl (k 0, 120, .inl o_28))] := hD
  generalize H1 = H at hP hS ⊢
  have hw_29 : (PR 120 4 0 0 7 o_28) := hw
  have hw_30 := hw_29
  clear hw
  refine lv_aload_n hx hb dX12_copyTown_54 rfl (lv_at hl 0 rfl) ?_
  refine va_get (D := D) (ci := 12) (v := .ref m21) (C := RX12) (T := TX12) (N := 42) hx hb hts iT_X12 hown hK hP 0 rfl rfl 21 (by decide) (hts _ tw_6_74) (fun _ h9 => h9) rfl dX12_copyTown_55 ?_
  refine lv_iconst (v := 4) hx hb dX12_copyTown_58 (by decide) ?_
  refine lv_iload_n hx hb dX12_copyTown_59 rfl (lv_at hl 1 rfl) ?_
  refine lv_iload_n hx hb dX12_copyTown_60 rfl (lv_at hl 2 rfl) ?_
  have hPc := hP.sub (ws' := [(m21, .inl (k 0, 20, .inl f21))]) [1] rfl
  have hDc := hD.sub (ws' := [(m21, .inl (k 0, 20, .inl f21))]) [1] (by decide) rfl
  have hFc := va_free (wc := [(m21, .inl (k 0, 20, .inl f21))]) hD hS hA [1] rfl
  refine va_callv (va_runS (As := [.ref m21, .int 4, .int p0, .int p1]) (rest := []) ⟨hx, hb, hml, hown, hts⟩ (c_X12_copyRow_5 l D k m21 p0 p1 f21 H.size (show 0 ≤ p0.toInt ∧ p0.toInt ≤ 4 from by omega) (show 0 ≤ p1.toInt ∧ p1.toInt ≤ 4 from by omega) hp_f21_0 hp_f21_1) (va_cwS 4 hts (gS tw_7_91 tw_7_92 tw_1_13 tw_7_93) rfl rfl rfl hdS_X12_copyRow ⟨Nat.le_of_ble_eq_true rfl, Nat.le_of_ble_eq_true rfl⟩) (cz_S hK hPc hDc hN [.ref m21, .int 4, .int p0, .int p1]) rfl rfl hl.1 rfl (lv_room (Nat.le_of_ble_eq_true rfl)) dX12_copyTown_61 ⟨Nat.le_of_ble_eq_true rfl, Nat.le_of_ble_eq_true rfl⟩) hS (fun q _ h => hFc q h) hFc (fun uZ tZ H1 locs ht hvm hw hB hz1 hk1 hS => ?_)
  obtain ⟨o_32, rfl⟩ : ∃ z, z = uZ := ⟨_, rfl⟩
  obtain ⟨hP1, hK1, hD1⟩ := hB
  rw [ht] at hP1
  obtain ⟨hP, hD⟩ := va_join (wr := [(mo, .inr (12, [.int v0, .ref m1, .ref m2, .ref m3, .ref m4, .ref m5, .int v6, .int v7, .int v8, .int v9, .int v10, .long v11, .int v12, .int v13, .int v14, .int v15, .ref m16, .ref m17, .ref m18, .ref m19, .ref m20, .ref m21, .ref m22, .ref m23, .int v24, .ref m25, .ref m26, .ref m27, .ref m28, .ref m29, .int v30, .ref m31, .ref m32, .ref m33, .int v34, .int v35, .int v36, .ref m37, .ref m38, .ref m39, .ref m40, .long v41])), (m22, .inl (k 0, 600, .inl f22)), (m16, .inl (k 0, 5, .inl o_2)), (m17, .inl (k 0, 30, .inl o_5)), (m18, .inl (k 0, 250, .inl o_15)), (m19, .inl (k 0, 40, .inl o_23)), (m20, .inl (k 0, 120, .inl o_28))]) (w1 := [(m21, .inl (k 0, 20, .inl o_32))]) hP hD [1] [0, 2, 3, 4, 5, 6, 7] rfl rfl (by decide) (by decide) hk1 hFc hP1 hD1
  clear hK1 hP1 hD1 hPc hDc hFc
  clear hk1 hz1 ht hvm
  have hP : va_P D vwCl [(mo, .inr (12, [.int v0, .ref m1, .ref m2, .ref m3, .ref m4, .ref m5, .int v6, .int v7, .int v8, .int v9, .int v10, .long v11, .int v12, .int v13, .int v14, .int v15, .ref m16, .ref m17, .ref m18, .ref m19, .ref m20, .ref m21, .ref m22, .ref m23, .int v24, .ref m25, .ref m26, .ref m27, .ref m28, .ref m29, .int v30, .ref m31, .ref m32, .ref m33, .int v34, .int v35, .int v36, .ref m37, .ref m38, .ref m39, .ref m40, .long v41])), (m22, .inl (k 0, 600, .inl f22)), (m16, .inl (k 0, 5, .inl o_2)), (m17, .inl (k 0, 30, .inl o_5)), (m18, .inl (k 0, 250, .inl o_15)), (m19, .inl (k 0, 40, .inl o_23)), (m20, .inl (k 0, 120, .inl o_28)), (m21, .inl (k 0, 20, .inl o_32))] H1 := hP
  have hD : va_D A [(mo, .inr (12, [.int v0, .ref m1, .ref m2, .ref m3, .ref m4, .ref m5, .int v6, .int v7, .int v8, .int v9, .int v10, .long v11, .int v12, .int v13, .int v14, .int v15, .ref m16, .ref m17, .ref m18, .ref m19, .ref m20, .ref m21, .ref m22, .ref m23, .int v24, .ref m25, .ref m26, .ref m27, .ref m28, .ref m29, .int v30, .ref m31, .ref m32, .ref m33, .int v34, .int v35, .int v36, .ref m37, .ref m38, .ref m39, .ref m40, .long v41])), (m22, .inl (k 0, 600, .inl f22)), (m16, .inl (k 0, 5, .inl o_2)), (m17, .inl (k 0, 30, .inl o_5)), (m18, .inl (k 0, 250, .inl o_15)), (m19, .inl (k 0, 40, .inl o_23)), (m20, .inl (k 0, 120, .inl o_28)), (m21, .inl (k 0, 20, .inl o_32))] := hD
  generalize H1 = H at hP hS ⊢
  have hw_33 : (PR 20 2 0 0 7 o_32) ∧ (PR 20 2 1 0 999 o_32) := hw
  obtain ⟨hw_34, hw_35⟩ := hw_33
  clear hw
  refine lv_aload_n hx hb dX12_copyTown_64 rfl (lv_at hl 0 rfl) ?_
  refine va_get (D := D) (ci := 12) (v := .ref m22) (C := RX12) (T := TX12) (N := 42) hx hb hts iT_X12 hown hK hP 0 rfl rfl 22 (by decide) (hts _ tw_6_75) (fun _ h9 => h9) rfl dX12_copyTown_65 ?_
  refine lv_bipush (v := 120) hx hb dX12_copyTown_68 (by decide) ?_
  refine lv_iload_n hx hb dX12_copyTown_70 rfl (lv_at hl 1 rfl) ?_
  refine lv_iload_n hx hb dX12_copyTown_71 rfl (lv_at hl 2 rfl) ?_
  have hPc := hP.sub (ws' := [(m22, .inl (k 0, 600, .inl f22))]) [1] rfl
  have hDc := hD.sub (ws' := [(m22, .inl (k 0, 600, .inl f22))]) [1] (by decide) rfl
  have hFc := va_free (wc := [(m22, .inl (k 0, 600, .inl f22))]) hD hS hA [1] rfl
  refine va_callv (va_runS (As := [.ref m22, .int 120, .int p0, .int p1]) (rest := []) ⟨hx, hb, hml, hown, hts⟩ (c_X12_copyRow_6 l D k m22 p0 p1 f22 H.size (show 0 ≤ p0.toInt ∧ p0.toInt ≤ 4 from by omega) (show 0 ≤ p1.toInt ∧ p1.toInt ≤ 4 from by omega) hp_f22_0 hp_f22_1 hp_f22_2 (show ¬ p0.toInt = p1.toInt from by omega)) (va_cwS 4 hts (gS tw_7_91 tw_7_92 tw_1_13 tw_7_93) rfl rfl rfl hdS_X12_copyRow ⟨Nat.le_of_ble_eq_true rfl, Nat.le_of_ble_eq_true rfl⟩) (cz_S hK hPc hDc hN [.ref m22, .int 120, .int p0, .int p1]) rfl rfl hl.1 rfl (lv_room (Nat.le_of_ble_eq_true rfl)) dX12_copyTown_72 ⟨Nat.le_of_ble_eq_true rfl, Nat.le_of_ble_eq_true rfl⟩) hS (fun q _ h => hFc q h) hFc (fun uZ tZ H1 locs ht hvm hw hB hz1 hk1 hS => ?_)
  obtain ⟨o_37, rfl⟩ : ∃ z, z = uZ := ⟨_, rfl⟩
  obtain ⟨hP1, hK1, hD1⟩ := hB
  rw [ht] at hP1
  obtain ⟨hP, hD⟩ := va_join (wr := [(mo, .inr (12, [.int v0, .ref m1, .ref m2, .ref m3, .ref m4, .ref m5, .int v6, .int v7, .int v8, .int v9, .int v10, .long v11, .int v12, .int v13, .int v14, .int v15, .ref m16, .ref m17, .ref m18, .ref m19, .ref m20, .ref m21, .ref m22, .ref m23, .int v24, .ref m25, .ref m26, .ref m27, .ref m28, .ref m29, .int v30, .ref m31, .ref m32, .ref m33, .int v34, .int v35, .int v36, .ref m37, .ref m38, .ref m39, .ref m40, .long v41])), (m16, .inl (k 0, 5, .inl o_2)), (m17, .inl (k 0, 30, .inl o_5)), (m18, .inl (k 0, 250, .inl o_15)), (m19, .inl (k 0, 40, .inl o_23)), (m20, .inl (k 0, 120, .inl o_28)), (m21, .inl (k 0, 20, .inl o_32))]) (w1 := [(m22, .inl (k 0, 600, .inl o_37))]) hP hD [1] [0, 2, 3, 4, 5, 6, 7] rfl rfl (by decide) (by decide) hk1 hFc hP1 hD1
  clear hK1 hP1 hD1 hPc hDc hFc
  clear hk1 hz1 ht hvm
  have hP : va_P D vwCl [(mo, .inr (12, [.int v0, .ref m1, .ref m2, .ref m3, .ref m4, .ref m5, .int v6, .int v7, .int v8, .int v9, .int v10, .long v11, .int v12, .int v13, .int v14, .int v15, .ref m16, .ref m17, .ref m18, .ref m19, .ref m20, .ref m21, .ref m22, .ref m23, .int v24, .ref m25, .ref m26, .ref m27, .ref m28, .ref m29, .int v30, .ref m31, .ref m32, .ref m33, .int v34, .int v35, .int v36, .ref m37, .ref m38, .ref m39, .ref m40, .long v41])), (m16, .inl (k 0, 5, .inl o_2)), (m17, .inl (k 0, 30, .inl o_5)), (m18, .inl (k 0, 250, .inl o_15)), (m19, .inl (k 0, 40, .inl o_23)), (m20, .inl (k 0, 120, .inl o_28)), (m21, .inl (k 0, 20, .inl o_32)), (m22, .inl (k 0, 600, .inl o_37))] H1 := hP
  have hD : va_D A [(mo, .inr (12, [.int v0, .ref m1, .ref m2, .ref m3, .ref m4, .ref m5, .int v6, .int v7, .int v8, .int v9, .int v10, .long v11, .int v12, .int v13, .int v14, .int v15, .ref m16, .ref m17, .ref m18, .ref m19, .ref m20, .ref m21, .ref m22, .ref m23, .int v24, .ref m25, .ref m26, .ref m27, .ref m28, .ref m29, .int v30, .ref m31, .ref m32, .ref m33, .int v34, .int v35, .int v36, .ref m37, .ref m38, .ref m39, .ref m40, .long v41])), (m16, .inl (k 0, 5, .inl o_2)), (m17, .inl (k 0, 30, .inl o_5)), (m18, .inl (k 0, 250, .inl o_15)), (m19, .inl (k 0, 40, .inl o_23)), (m20, .inl (k 0, 120, .inl o_28)), (m21, .inl (k 0, 20, .inl o_32)), (m22, .inl (k 0, 600, .inl o_37))] := hD
  generalize H1 = H at hP hS ⊢
  have hw_38 : (PR 600 3 1 0 9 o_37) ∧ (PR 600 3 2 0 99 o_37) ∧ (AK o_37) := hw
  obtain ⟨hw_39, hw_40, hw_41⟩ := hw_38
  clear hw
  have hP9 := hP.sub (ws' := [(mo, .inr (12, [.int v0, .ref m1, .ref m2, .ref m3, .ref m4, .ref m5, .int v6, .int v7, .int v8, .int v9, .int v10, .long v11, .int v12, .int v13, .int v14, .int v15, .ref m16, .ref m17, .ref m18, .ref m19, .ref m20, .ref m21, .ref m22, .ref m23, .int v24, .ref m25, .ref m26, .ref m27, .ref m28, .ref m29, .int v30, .ref m31, .ref m32, .ref m33, .int v34, .int v35, .int v36, .ref m37, .ref m38, .ref m39, .ref m40, .long v41])), (m16, .inl (k 0, 5, .inl o_2)), (m17, .inl (k 0, 30, .inl o_5)), (m18, .inl (k 0, 250, .inl o_15)), (m19, .inl (k 0, 40, .inl o_23)), (m20, .inl (k 0, 120, .inl o_28)), (m21, .inl (k 0, 20, .inl o_32)), (m22, .inl (k 0, 600, .inl o_37))]) [0, 1, 2, 3, 4, 5, 6, 7] rfl
  have hD9 := hD.sub (ws' := [(mo, .inr (12, [.int v0, .ref m1, .ref m2, .ref m3, .ref m4, .ref m5, .int v6, .int v7, .int v8, .int v9, .int v10, .long v11, .int v12, .int v13, .int v14, .int v15, .ref m16, .ref m17, .ref m18, .ref m19, .ref m20, .ref m21, .ref m22, .ref m23, .int v24, .ref m25, .ref m26, .ref m27, .ref m28, .ref m29, .int v30, .ref m31, .ref m32, .ref m33, .int v34, .int v35, .int v36, .ref m37, .ref m38, .ref m39, .ref m40, .long v41])), (m16, .inl (k 0, 5, .inl o_2)), (m17, .inl (k 0, 30, .inl o_5)), (m18, .inl (k 0, 250, .inl o_15)), (m19, .inl (k 0, 40, .inl o_23)), (m20, .inl (k 0, 120, .inl o_28)), (m21, .inl (k 0, 20, .inl o_32)), (m22, .inl (k 0, 600, .inl o_37))]) [0, 1, 2, 3, 4, 5, 6, 7] (by decide) rfl
  exact W.vret hx hb hr (fun tZ ht hW => ⟨⟨(o_2, o_5, o_15, o_23, o_28, o_32, o_37), rfl, ⟨hw_7, hw_8, hw_9, hw_10, hw_11, hw_12, hw_17, hw_18, hw_19, hw_20, hw_25, hw_26, hw_30, hw_34, hw_35, hw_39, hw_40, hw_41, (TK.cp hTK hw_13 hw_21 (by omega) (by omega) (by omega) (by omega))⟩, by rw [ht]; exact hP9, va_K.moved hW.alike hK, hD9⟩, hS.F ht⟩) hS.2.2 dX12_copyTown_75
set_option maxHeartbeats 4000000 in
set_option maxRecDepth 100000 in
theorem c_X12_town (l : Launch) (D : va_G) (k : Nat → ClassId) (mo : Nat) (v0 : Int32) (m1 : Nat) (m2 : Nat) (m3 : Nat) (m4 : Nat) (m5 : Nat) (v6 : Int32) (v7 : Int32) (v8 : Int32) (v9 : Int32) (v10 : Int32) (v11 : Int64) (v12 : Int32) (v13 : Int32) (v14 : Int32) (v15 : Int32) (m16 : Nat) (m17 : Nat) (m18 : Nat) (m19 : Nat) (m20 : Nat) (m21 : Nat) (m22 : Nat) (m23 : Nat) (v24 : Int32) (m25 : Nat) (m26 : Nat) (m27 : Nat) (m28 : Nat) (m29 : Nat) (v30 : Int32) (m31 : Nat) (m32 : Nat) (m33 : Nat) (v34 : Int32) (v35 : Int32) (v36 : Int32) (m37 : Nat) (m38 : Nat) (m39 : Nat) (m40 : Nat) (v41 : Int64) (f5 : Nat → Int32) (f16 : Nat → Int32) (f17 : Nat → Int32) (f18 : Nat → Int32) (f19 : Nat → Int32) (f20 : Nat → Int32) (f21 : Nat → Int32) (f22 : Nat → Int32) (sz : Nat) (h_v6 : 0 ≤ v6.toInt ∧ v6.toInt ≤ 1000) (h_v24 : 0 ≤ v24.toInt ∧ v24.toInt ≤ 1023) (hp_f17_0 : PR 30 6 0 0 8 f17) (hp_f17_1 : PR 30 6 1 0 10 f17) (hp_f17_2 : PR 30 6 2 0 4 f17) (hp_f17_3 : PR 30 6 3 0 6 f17) (hp_f17_4 : PR 30 6 4 0 2 f17) (hp_f17_5 : PR 30 6 5 0 40 f17) (hp_f18_0 : PR 250 5 0 0 7 f18) (hp_f18_1 : PR 250 5 1 0 7 f18) (hp_f18_2 : PR 250 5 2 0 60 f18) (hp_f18_3 : PR 250 5 3 0 10 f18) (hp_f19_0 : PR 40 2 0 0 7 f19) (hp_f19_1 : PR 40 2 1 0 99 f19) (hp_f20_0 : PR 120 4 0 0 7 f20) (hp_f21_0 : PR 20 2 0 0 7 f21) (hp_f21_1 : PR 20 2 1 0 999 f21) (hp_f22_0 : PR 600 3 1 0 9 f22) (hp_f22_1 : PR 600 3 2 0 99 f22) (hp_f22_2 : AK f22) (hTK : TK f17 f18) : Met l yX12_town (ww yX12_town cX12_town 1 (some .int)) ({ frames := 7, cells := 0, slots := 0, locals := 154 }) (Pre0 D k [(mo, .inr (12, [.int v0, .ref m1, .ref m2, .ref m3, .ref m4, .ref m5, .int v6, .int v7, .int v8, .int v9, .int v10, .long v11, .int v12, .int v13, .int v14, .int v15, .ref m16, .ref m17, .ref m18, .ref m19, .ref m20, .ref m21, .ref m22, .ref m23, .int v24, .ref m25, .ref m26, .ref m27, .ref m28, .ref m29, .int v30, .ref m31, .ref m32, .ref m33, .int v34, .int v35, .int v36, .ref m37, .ref m38, .ref m39, .ref m40, .long v41])), (m5, .inl (k 1, 1000, .inl f5)), (m16, .inl (k 0, 5, .inl f16)), (m17, .inl (k 0, 30, .inl f17)), (m18, .inl (k 0, 250, .inl f18)), (m19, .inl (k 0, 40, .inl f19)), (m20, .inl (k 0, 120, .inl f20)), (m21, .inl (k 0, 20, .inl f21)), (m22, .inl (k 0, 600, .inl f22))] sz [.ref mo]) (va_Qi (fun (r : Int32) (u : Int32 × Int32 × Int32 × Int32 × Int32 × Int32 × Int64 × Int32 × Int32 × Int32 × Int32 × (Nat → Int32) × (Nat → Int32) × (Nat → Int32) × (Nat → Int32) × (Nat → Int32) × (Nat → Int32) × (Nat → Int32)) => match u with | (v0z, v6z, v7z, v8z, v9z, v10z, v11z, v12z, v13z, v14z, v15z, f16z, f17z, f18z, f19z, f20z, f21z, f22z) => (0 ≤ v0z.toInt ∧ v0z.toInt ≤ 0) ∧ (0 ≤ v6z.toInt ∧ v6z.toInt ≤ 0) ∧ (0 ≤ v7z.toInt ∧ v7z.toInt ≤ 1000) ∧ (PR 30 6 0 0 8 f17z) ∧ (PR 30 6 1 0 10 f17z) ∧ (PR 30 6 2 0 4 f17z) ∧ (PR 30 6 3 0 6 f17z) ∧ (PR 30 6 4 0 2 f17z) ∧ (PR 30 6 5 0 40 f17z) ∧ (PR 250 5 0 0 7 f18z) ∧ (PR 250 5 1 0 7 f18z) ∧ (PR 250 5 2 0 60 f18z) ∧ (PR 250 5 3 0 10 f18z) ∧ (PR 40 2 0 0 7 f19z) ∧ (PR 40 2 1 0 99 f19z) ∧ (PR 120 4 0 0 7 f20z) ∧ (PR 20 2 0 0 7 f21z) ∧ (PR 20 2 1 0 999 f21z) ∧ (PR 600 3 1 0 9 f22z) ∧ (PR 600 3 2 0 99 f22z) ∧ (AK f22z) ∧ (TK f17z f18z)) (fun (u : Int32 × Int32 × Int32 × Int32 × Int32 × Int32 × Int64 × Int32 × Int32 × Int32 × Int32 × (Nat → Int32) × (Nat → Int32) × (Nat → Int32) × (Nat → Int32) × (Nat → Int32) × (Nat → Int32) × (Nat → Int32)) tZ => match u with | (v0z, v6z, v7z, v8z, v9z, v10z, v11z, v12z, v13z, v14z, v15z, f16z, f17z, f18z, f19z, f20z, f21z, f22z) => Bw D k (va_A [(mo, .inr (12, [.int v0, .ref m1, .ref m2, .ref m3, .ref m4, .ref m5, .int v6, .int v7, .int v8, .int v9, .int v10, .long v11, .int v12, .int v13, .int v14, .int v15, .ref m16, .ref m17, .ref m18, .ref m19, .ref m20, .ref m21, .ref m22, .ref m23, .int v24, .ref m25, .ref m26, .ref m27, .ref m28, .ref m29, .int v30, .ref m31, .ref m32, .ref m33, .int v34, .int v35, .int v36, .ref m37, .ref m38, .ref m39, .ref m40, .long v41])), (m5, .inl (k 1, 1000, .inl f5)), (m16, .inl (k 0, 5, .inl f16)), (m17, .inl (k 0, 30, .inl f17)), (m18, .inl (k 0, 250, .inl f18)), (m19, .inl (k 0, 40, .inl f19)), (m20, .inl (k 0, 120, .inl f20)), (m21, .inl (k 0, 20, .inl f21)), (m22, .inl (k 0, 600, .inl f22))] sz) [(mo, .inr (12, [.int v0z, .ref m1, .ref m2, .ref m3, .ref m4, .ref m5, .int v6z, .int v7z, .int v8z, .int v9z, .int v10z, .long v11z, .int v12z, .int v13z, .int v14z, .int v15z, .ref m16, .ref m17, .ref m18, .ref m19, .ref m20, .ref m21, .ref m22, .ref m23, .int v24, .ref m25, .ref m26, .ref m27, .ref m28, .ref m29, .int v30, .ref m31, .ref m32, .ref m33, .int v34, .int v35, .int v36, .ref m37, .ref m38, .ref m39, .ref m40, .long v41])), (m5, .inl (k 1, 1000, .inl f5)), (m16, .inl (k 0, 5, .inl f16z)), (m17, .inl (k 0, 30, .inl f17z)), (m18, .inl (k 0, 250, .inl f18z)), (m19, .inl (k 0, 40, .inl f19z)), (m20, .inl (k 0, 120, .inl f20z)), (m21, .inl (k 0, 20, .inl f21z)), (m22, .inl (k 0, 600, .inl f22z))] tZ) (va_A [(mo, .inr (12, [.int v0, .ref m1, .ref m2, .ref m3, .ref m4, .ref m5, .int v6, .int v7, .int v8, .int v9, .int v10, .long v11, .int v12, .int v13, .int v14, .int v15, .ref m16, .ref m17, .ref m18, .ref m19, .ref m20, .ref m21, .ref m22, .ref m23, .int v24, .ref m25, .ref m26, .ref m27, .ref m28, .ref m29, .int v30, .ref m31, .ref m32, .ref m33, .int v34, .int v35, .int v36, .ref m37, .ref m38, .ref m39, .ref m40, .long v41])), (m5, .inl (k 1, 1000, .inl f5)), (m16, .inl (k 0, 5, .inl f16)), (m17, .inl (k 0, 30, .inl f17)), (m18, .inl (k 0, 250, .inl f18)), (m19, .inl (k 0, 40, .inl f19)), (m20, .inl (k 0, 120, .inl f20)), (m21, .inl (k 0, 20, .inl f21)), (m22, .inl (k 0, 600, .inl f22))] sz)) 0 0 (va_A [(mo, .inr (12, [.int v0, .ref m1, .ref m2, .ref m3, .ref m4, .ref m5, .int v6, .int v7, .int v8, .int v9, .int v10, .long v11, .int v12, .int v13, .int v14, .int v15, .ref m16, .ref m17, .ref m18, .ref m19, .ref m20, .ref m21, .ref m22, .ref m23, .int v24, .ref m25, .ref m26, .ref m27, .ref m28, .ref m29, .int v30, .ref m31, .ref m32, .ref m33, .int v34, .int v35, .int v36, .ref m37, .ref m38, .ref m39, .ref m40, .long v41])), (m5, .inl (k 1, 1000, .inl f5)), (m16, .inl (k 0, 5, .inl f16)), (m17, .inl (k 0, 30, .inl f17)), (m18, .inl (k 0, 250, .inl f18)), (m19, .inl (k 0, 40, .inl f19)), (m20, .inl (k 0, 120, .inl f20)), (m21, .inl (k 0, 20, .inl f21)), (m22, .inl (k 0, 600, .inl f22))] sz) := by
  refine Met.ofW (cc := cX12_town) (maxL := 1) (ret := (some .int)) (by decide +kernel) rfl ?_
  intro p e s m args below meth c s₁ B hml hv
  obtain ⟨rfl, hsz, hP, hK, hD0, hN⟩ := hv
  have hx := B.exec
  have hb := B.bytes
  have hr := B.returns
  have hts : ∀ w ∈ TT, w.before _ s = true := fun w h => atoms_spec (ws := ww yX12_town cX12_town 1 (some .int)) B.pre w (List.mem_cons_of_mem _ h)
  have hown : s.vm.findClass RX12 = some m.cls := findClass_of_methodNamed B.named
  have hlocks := B.notSynchronized
  subst hsz
  have hD := hD0.self (sz := s.heap.size)
  generalize hAe : va_A [(mo, .inr (12, [.int v0, .ref m1, .ref m2, .ref m3, .ref m4, .ref m5, .int v6, .int v7, .int v8, .int v9, .int v10, .long v11, .int v12, .int v13, .int v14, .int v15, .ref m16, .ref m17, .ref m18, .ref m19, .ref m20, .ref m21, .ref m22, .ref m23, .int v24, .ref m25, .ref m26, .ref m27, .ref m28, .ref m29, .int v30, .ref m31, .ref m32, .ref m33, .int v34, .int v35, .int v36, .ref m37, .ref m38, .ref m39, .ref m40, .long v41])), (m5, .inl (k 1, 1000, .inl f5)), (m16, .inl (k 0, 5, .inl f16)), (m17, .inl (k 0, 30, .inl f17)), (m18, .inl (k 0, 250, .inl f18)), (m19, .inl (k 0, 40, .inl f19)), (m20, .inl (k 0, 120, .inl f20)), (m21, .inl (k 0, 20, .inl f21)), (m22, .inl (k 0, 600, .inl f22))] s.heap.size = A at hD ⊢
  have hA : ∀ q : Nat, s.heap.size ≤ q → A q := fun q h => by rw [← hAe]; exact Or.inr h
  have hS : va_S A s.heap s.heap [] := va_S.rf
  have hl := lv_entry ([.ref mo]) (n := 1) (Nat.le_of_ble_eq_true rfl)
  rw [lg_entry_eq]
  generalize (lg_sl ([.ref mo]) ++ List.replicate (1 - (lg_sl ([.ref mo])).length) Slot.unset).toArray = ls at hl ⊢
  have hl : lv_has ls 1 [(0, .ref mo)] := hl
  refine lv_aload_n hx hb dX12_town_0 rfl (lv_at hl 0 rfl) ?_
  refine lv_iconst (v := 0) hx hb dX12_town_1 (by decide) ?_
  refine va_put (D := D) (ci := 12) (v := .int 0) (ty := tyX12 0) (C := RX12) (T := TX12) (N := 42) hx hb hts iT_X12 tyX12 tyX12_ok nmX12 hown hK hP hD hS 0 rfl rfl 0 (by decide) (hts _ tw_6_53) (fun _ h9 => h9) rfl (tyX12_ok 0 (by decide)) rfl rfl (Nat.le_of_ble_eq_true rfl) dX12_town_2 (fun H locs hP hD hS => ?_)
  have hP : va_P D vwCl [(mo, .inr (12, [.int 0, .ref m1, .ref m2, .ref m3, .ref m4, .ref m5, .int v6, .int v7, .int v8, .int v9, .int v10, .long v11, .int v12, .int v13, .int v14, .int v15, .ref m16, .ref m17, .ref m18, .ref m19, .ref m20, .ref m21, .ref m22, .ref m23, .int v24, .ref m25, .ref m26, .ref m27, .ref m28, .ref m29, .int v30, .ref m31, .ref m32, .ref m33, .int v34, .int v35, .int v36, .ref m37, .ref m38, .ref m39, .ref m40, .long v41])), (m5, .inl (k 1, 1000, .inl f5)), (m16, .inl (k 0, 5, .inl f16)), (m17, .inl (k 0, 30, .inl f17)), (m18, .inl (k 0, 250, .inl f18)), (m19, .inl (k 0, 40, .inl f19)), (m20, .inl (k 0, 120, .inl f20)), (m21, .inl (k 0, 20, .inl f21)), (m22, .inl (k 0, 600, .inl f22))] H := hP
  have hD : va_D A [(mo, .inr (12, [.int 0, .ref m1, .ref m2, .ref m3, .ref m4, .ref m5, .int v6, .int v7, .int v8, .int v9, .int v10, .long v11, .int v12, .int v13, .int v14, .int v15, .ref m16, .ref m17, .ref m18, .ref m19, .ref m20, .ref m21, .ref m22, .ref m23, .int v24, .ref m25, .ref m26, .ref m27, .ref m28, .ref m29, .int v30, .ref m31, .ref m32, .ref m33, .int v34, .int v35, .int v36, .ref m37, .ref m38, .ref m39, .ref m40, .long v41])), (m5, .inl (k 1, 1000, .inl f5)), (m16, .inl (k 0, 5, .inl f16)), (m17, .inl (k 0, 30, .inl f17)), (m18, .inl (k 0, 250, .inl f18)), (m19, .inl (k 0, 40, .inl f19)), (m20, .inl (k 0, 120, .inl f20)), (m21, .inl (k 0, 20, .inl f21)), (m22, .inl (k 0, 600, .inl f22))] := hD
  refine lv_aload_n hx hb dX12_town_5 rfl (lv_at hl 0 rfl) ?_
  have hPc := hP.sub (ws' := [(mo, .inr (12, [.int 0, .ref m1, .ref m2, .ref m3, .ref m4, .ref m5, .int v6, .int v7, .int v8, .int v9, .int v10, .long v11, .int v12, .int v13, .int v14, .int v15, .ref m16, .ref m17, .ref m18, .ref m19, .ref m20, .ref m21, .ref m22, .ref m23, .int v24, .ref m25, .ref m26, .ref m27, .ref m28, .ref m29, .int v30, .ref m31, .ref m32, .ref m33, .int v34, .int v35, .int v36, .ref m37, .ref m38, .ref m39, .ref m40, .long v41])), (m16, .inl (k 0, 5, .inl f16)), (m17, .inl (k 0, 30, .inl f17)), (m18, .inl (k 0, 250, .inl f18))]) [0, 2, 3, 4] rfl
  have hDc := hD.sub (ws' := [(mo, .inr (12, [.int 0, .ref m1, .ref m2, .ref m3, .ref m4, .ref m5, .int v6, .int v7, .int v8, .int v9, .int v10, .long v11, .int v12, .int v13, .int v14, .int v15, .ref m16, .ref m17, .ref m18, .ref m19, .ref m20, .ref m21, .ref m22, .ref m23, .int v24, .ref m25, .ref m26, .ref m27, .ref m28, .ref m29, .int v30, .ref m31, .ref m32, .ref m33, .int v34, .int v35, .int v36, .ref m37, .ref m38, .ref m39, .ref m40, .long v41])), (m16, .inl (k 0, 5, .inl f16)), (m17, .inl (k 0, 30, .inl f17)), (m18, .inl (k 0, 250, .inl f18))]) [0, 2, 3, 4] (by decide) rfl
  have hFc := va_free (wc := [(mo, .inr (12, [.int 0, .ref m1, .ref m2, .ref m3, .ref m4, .ref m5, .int v6, .int v7, .int v8, .int v9, .int v10, .long v11, .int v12, .int v13, .int v14, .int v15, .ref m16, .ref m17, .ref m18, .ref m19, .ref m20, .ref m21, .ref m22, .ref m23, .int v24, .ref m25, .ref m26, .ref m27, .ref m28, .ref m29, .int v30, .ref m31, .ref m32, .ref m33, .int v34, .int v35, .int v36, .ref m37, .ref m38, .ref m39, .ref m40, .long v41])), (m16, .inl (k 0, 5, .inl f16)), (m17, .inl (k 0, 30, .inl f17)), (m18, .inl (k 0, 250, .inl f18))]) hD hS hA [0, 2, 3, 4] rfl
  refine va_callv (va_runV (C := RX12) (As := []) (rest := []) ⟨hx, hb, hml, hown, hts⟩ (c_X12_clears l D k mo 0 m1 m2 m3 m4 m5 v6 v7 v8 v9 v10 v11 v12 v13 v14 v15 m16 m17 m18 m19 m20 m21 m22 m23 v24 m25 m26 m27 m28 m29 v30 m31 m32 m33 v34 v35 v36 m37 m38 m39 m40 v41 f16 f17 f18 H.size (show 0 ≤ v6.toInt ∧ v6.toInt ≤ 1000 from by omega) (show 0 ≤ v24.toInt ∧ v24.toInt ≤ 1023 from by omega) hp_f17_0 hp_f17_1 hp_f17_2 hp_f17_3 hp_f17_4 hp_f17_5 hp_f18_0 hp_f18_1 hp_f18_2 hp_f18_3 hTK) (cwV 0 hts (gV tw_6_222 tw_6_224 tw_p_36 tw_1_13 tw_6_225) rfl rfl rfl hdV_X12_clears ⟨Nat.le_of_ble_eq_true rfl, Nat.le_of_ble_eq_true rfl⟩) (cz_V hK hPc hDc hN (ci := 12) (q0 := 0) rfl rfl []) rfl rfl hl.1 rfl (lv_room (Nat.le_of_ble_eq_true rfl)) dX12_town_6 ⟨Nat.le_of_ble_eq_true rfl, Nat.le_of_ble_eq_true rfl⟩) hS (fun q _ h => hFc q h) hFc (fun uZ tZ H1 locs ht hvm hw hB hz1 hk1 hS => ?_)
  obtain ⟨o_2, o_3⟩ := uZ
  obtain ⟨hP1, hK1, hD1⟩ := hB
  rw [ht] at hP1
  obtain ⟨hP, hD⟩ := va_join (wr := [(m5, .inl (k 1, 1000, .inl f5)), (m19, .inl (k 0, 40, .inl f19)), (m20, .inl (k 0, 120, .inl f20)), (m21, .inl (k 0, 20, .inl f21)), (m22, .inl (k 0, 600, .inl f22))]) (w1 := [(mo, .inr (12, [.int 0, .ref m1, .ref m2, .ref m3, .ref m4, .ref m5, .int v6, .int v7, .int v8, .int v9, .int v10, .long v11, .int v12, .int v13, .int v14, .int v15, .ref m16, .ref m17, .ref m18, .ref m19, .ref m20, .ref m21, .ref m22, .ref m23, .int v24, .ref m25, .ref m26, .ref m27, .ref m28, .ref m29, .int v30, .ref m31, .ref m32, .ref m33, .int v34, .int v35, .int v36, .ref m37, .ref m38, .ref m39, .ref m40, .long v41])), (m16, .inl (k 0, 5, .inl o_2)), (m17, .inl (k 0, 30, .inl o_3)), (m18, .inl (k 0, 250, .inl f18))]) hP hD [0, 2, 3, 4] [1, 5, 6, 7, 8] rfl rfl (by decide) (by decide) hk1 hFc hP1 hD1
  clear hK1 hP1 hD1 hPc hDc hFc
  clear hk1 hz1 ht hvm
  have hP : va_P D vwCl [(m5, .inl (k 1, 1000, .inl f5)), (m19, .inl (k 0, 40, .inl f19)), (m20, .inl (k 0, 120, .inl f20)), (m21, .inl (k 0, 20, .inl f21)), (m22, .inl (k 0, 600, .inl f22)), (mo, .inr (12, [.int 0, .ref m1, .ref m2, .ref m3, .ref m4, .ref m5, .int v6, .int v7, .int v8, .int v9, .int v10, .long v11, .int v12, .int v13, .int v14, .int v15, .ref m16, .ref m17, .ref m18, .ref m19, .ref m20, .ref m21, .ref m22, .ref m23, .int v24, .ref m25, .ref m26, .ref m27, .ref m28, .ref m29, .int v30, .ref m31, .ref m32, .ref m33, .int v34, .int v35, .int v36, .ref m37, .ref m38, .ref m39, .ref m40, .long v41])), (m16, .inl (k 0, 5, .inl o_2)), (m17, .inl (k 0, 30, .inl o_3)), (m18, .inl (k 0, 250, .inl f18))] H1 := hP
  have hD : va_D A [(m5, .inl (k 1, 1000, .inl f5)), (m19, .inl (k 0, 40, .inl f19)), (m20, .inl (k 0, 120, .inl f20)), (m21, .inl (k 0, 20, .inl f21)), (m22, .inl (k 0, 600, .inl f22)), (mo, .inr (12, [.int 0, .ref m1, .ref m2, .ref m3, .ref m4, .ref m5, .int v6, .int v7, .int v8, .int v9, .int v10, .long v11, .int v12, .int v13, .int v14, .int v15, .ref m16, .ref m17, .ref m18, .ref m19, .ref m20, .ref m21, .ref m22, .ref m23, .int v24, .ref m25, .ref m26, .ref m27, .ref m28, .ref m29, .int v30, .ref m31, .ref m32, .ref m33, .int v34, .int v35, .int v36, .ref m37, .ref m38, .ref m39, .ref m40, .long v41])), (m16, .inl (k 0, 5, .inl o_2)), (m17, .inl (k 0, 30, .inl o_3)), (m18, .inl (k 0, 250, .inl f18))] := hD
  generalize H1 = H at hP hS ⊢
  have hw_4 : (PR 30 6 0 0 8 o_3) ∧ (PR 30 6 1 0 10 o_3) ∧ (PR 30 6 2 0 4 o_3) ∧ (PR 30 6 3 0 6 o_3) ∧ (PR 30 6 4 0 2 o_3) ∧ (PR 30 6 5 0 40 o_3) ∧ (TK o_3 f18) := hw
  obtain ⟨hw_5, hw_6, hw_7, hw_8, hw_9, hw_10, hw_11⟩ := hw_4
  clear hw
  refine lv_aload_n hx hb dX12_town_9 rfl (lv_at hl 0 rfl) ?_
  have hPc := hP.sub (ws' := [(mo, .inr (12, [.int 0, .ref m1, .ref m2, .ref m3, .ref m4, .ref m5, .int v6, .int v7, .int v8, .int v9, .int v10, .long v11, .int v12, .int v13, .int v14, .int v15, .ref m16, .ref m17, .ref m18, .ref m19, .ref m20, .ref m21, .ref m22, .ref m23, .int v24, .ref m25, .ref m26, .ref m27, .ref m28, .ref m29, .int v30, .ref m31, .ref m32, .ref m33, .int v34, .int v35, .int v36, .ref m37, .ref m38, .ref m39, .ref m40, .long v41])), (m5, .inl (k 1, 1000, .inl f5))]) [5, 0] rfl
  have hDc := hD.sub (ws' := [(mo, .inr (12, [.int 0, .ref m1, .ref m2, .ref m3, .ref m4, .ref m5, .int v6, .int v7, .int v8, .int v9, .int v10, .long v11, .int v12, .int v13, .int v14, .int v15, .ref m16, .ref m17, .ref m18, .ref m19, .ref m20, .ref m21, .ref m22, .ref m23, .int v24, .ref m25, .ref m26, .ref m27, .ref m28, .ref m29, .int v30, .ref m31, .ref m32, .ref m33, .int v34, .int v35, .int v36, .ref m37, .ref m38, .ref m39, .ref m40, .long v41])), (m5, .inl (k 1, 1000, .inl f5))]) [5, 0] (by decide) rfl
  have hFc := va_free (wc := [(mo, .inr (12, [.int 0, .ref m1, .ref m2, .ref m3, .ref m4, .ref m5, .int v6, .int v7, .int v8, .int v9, .int v10, .long v11, .int v12, .int v13, .int v14, .int v15, .ref m16, .ref m17, .ref m18, .ref m19, .ref m20, .ref m21, .ref m22, .ref m23, .int v24, .ref m25, .ref m26, .ref m27, .ref m28, .ref m29, .int v30, .ref m31, .ref m32, .ref m33, .int v34, .int v35, .int v36, .ref m37, .ref m38, .ref m39, .ref m40, .long v41])), (m5, .inl (k 1, 1000, .inl f5))]) hD hS hA [5, 0] rfl
  refine va_callv (va_runV (C := RX12) (As := []) (rest := []) ⟨hx, hb, hml, hown, hts⟩ (c_X12_begins l D k mo 0 m1 m2 m3 m4 m5 v6 v7 v8 v9 v10 v11 v12 v13 v14 v15 m16 m17 m18 m19 m20 m21 m22 m23 v24 m25 m26 m27 m28 m29 v30 m31 m32 m33 v34 v35 v36 m37 m38 m39 m40 v41 f5 H.size (show 0 ≤ v6.toInt ∧ v6.toInt ≤ 1000 from by omega) (show 0 ≤ v24.toInt ∧ v24.toInt ≤ 1023 from by omega)) (cwV 0 hts (gV tw_6_230 tw_6_232 tw_p_38 tw_1_13 tw_6_233) rfl rfl rfl hdV_X12_begins ⟨Nat.le_of_ble_eq_true rfl, Nat.le_of_ble_eq_true rfl⟩) (cz_V hK hPc hDc hN (ci := 12) (q0 := 0) rfl rfl []) rfl rfl hl.1 rfl (lv_room (Nat.le_of_ble_eq_true rfl)) dX12_town_10 ⟨Nat.le_of_ble_eq_true rfl, Nat.le_of_ble_eq_true rfl⟩) hS (fun q _ h => hFc q h) hFc (fun uZ tZ H1 locs ht hvm hw hB hz1 hk1 hS => ?_)
  obtain ⟨o_13, o_14, o_15, o_16, o_17, o_18, o_19⟩ := uZ
  obtain ⟨hP1, hK1, hD1⟩ := hB
  rw [ht] at hP1
  obtain ⟨hP, hD⟩ := va_join (wr := [(m19, .inl (k 0, 40, .inl f19)), (m20, .inl (k 0, 120, .inl f20)), (m21, .inl (k 0, 20, .inl f21)), (m22, .inl (k 0, 600, .inl f22)), (m16, .inl (k 0, 5, .inl o_2)), (m17, .inl (k 0, 30, .inl o_3)), (m18, .inl (k 0, 250, .inl f18))]) (w1 := [(mo, .inr (12, [.int 0, .ref m1, .ref m2, .ref m3, .ref m4, .ref m5, .int v6, .int o_13, .int o_14, .int o_15, .int o_16, .long o_17, .int o_18, .int o_19, .int v14, .int v15, .ref m16, .ref m17, .ref m18, .ref m19, .ref m20, .ref m21, .ref m22, .ref m23, .int v24, .ref m25, .ref m26, .ref m27, .ref m28, .ref m29, .int v30, .ref m31, .ref m32, .ref m33, .int v34, .int v35, .int v36, .ref m37, .ref m38, .ref m39, .ref m40, .long v41])), (m5, .inl (k 1, 1000, .inl f5))]) hP hD [5, 0] [1, 2, 3, 4, 6, 7, 8] rfl rfl (by decide) (by decide) hk1 hFc hP1 hD1
  clear hK1 hP1 hD1 hPc hDc hFc
  clear hk1 hz1 ht hvm
  have hP : va_P D vwCl [(m19, .inl (k 0, 40, .inl f19)), (m20, .inl (k 0, 120, .inl f20)), (m21, .inl (k 0, 20, .inl f21)), (m22, .inl (k 0, 600, .inl f22)), (m16, .inl (k 0, 5, .inl o_2)), (m17, .inl (k 0, 30, .inl o_3)), (m18, .inl (k 0, 250, .inl f18)), (mo, .inr (12, [.int 0, .ref m1, .ref m2, .ref m3, .ref m4, .ref m5, .int v6, .int o_13, .int o_14, .int o_15, .int o_16, .long o_17, .int o_18, .int o_19, .int v14, .int v15, .ref m16, .ref m17, .ref m18, .ref m19, .ref m20, .ref m21, .ref m22, .ref m23, .int v24, .ref m25, .ref m26, .ref m27, .ref m28, .ref m29, .int v30, .ref m31, .ref m32, .ref m33, .int v34, .int v35, .int v36, .ref m37, .ref m38, .ref m39, .ref m40, .long v41])), (m5, .inl (k 1, 1000, .inl f5))] H1 := hP
  have hD : va_D A [(m19, .inl (k 0, 40, .inl f19)), (m20, .inl (k 0, 120, .inl f20)), (m21, .inl (k 0, 20, .inl f21)), (m22, .inl (k 0, 600, .inl f22)), (m16, .inl (k 0, 5, .inl o_2)), (m17, .inl (k 0, 30, .inl o_3)), (m18, .inl (k 0, 250, .inl f18)), (mo, .inr (12, [.int 0, .ref m1, .ref m2, .ref m3, .ref m4, .ref m5, .int v6, .int o_13, .int o_14, .int o_15, .int o_16, .long o_17, .int o_18, .int o_19, .int v14, .int v15, .ref m16, .ref m17, .ref m18, .ref m19, .ref m20, .ref m21, .ref m22, .ref m23, .int v24, .ref m25, .ref m26, .ref m27, .ref m28, .ref m29, .int v30, .ref m31, .ref m32, .ref m33, .int v34, .int v35, .int v36, .ref m37, .ref m38, .ref m39, .ref m40, .long v41])), (m5, .inl (k 1, 1000, .inl f5))] := hD
  generalize H1 = H at hP hS ⊢
  have hw_20 : (0 ≤ o_13.toInt ∧ o_13.toInt ≤ 1000) ∧ (0 ≤ o_14.toInt ∧ o_14.toInt ≤ 4) ∧ (0 ≤ o_15.toInt ∧ o_15.toInt ≤ 1000) ∧ (0 ≤ o_18.toInt ∧ o_18.toInt ≤ 0) ∧ ((-1) ≤ o_19.toInt ∧ o_19.toInt ≤ (-1)) ∧ (0 ≤ o_13.toInt ∧ o_13.toInt ≤ v6.toInt) := hw
  obtain ⟨hw_21, hw_22, hw_23, hw_24, hw_25, hw_26⟩ := hw_20
  clear hw
  refine loop_r (Wg := fun H locs ls => W p l e _ s m _ below meth c H locs _ _ _ (F0 m 13 ls [])) (fun n9 H locs ls => ∃ (L13a0 : Nat → Int32) (L13a1 : Nat → Int32) (L13a2 : Nat → Int32) (L13a4 : Nat → Int32) (L13a5 : Nat → Int32) (L13a6 : Nat → Int32) (L13f7x7 : Int32) (L13f7x8 : Int32) (L13f7x9 : Int32) (L13f7x10 : Int32) (L13f7x11 : Int64) (L13f7x12 : Int32) (L13f7x13 : Int32), n9 = mz L13f7x12.toInt L13f7x7.toInt L13f7x8.toInt v6.toInt ∧ (PR 40 2 0 0 7 L13a0) ∧ (PR 40 2 1 0 99 L13a0) ∧ (PR 120 4 0 0 7 L13a1) ∧ (PR 20 2 0 0 7 L13a2) ∧ (PR 20 2 1 0 999 L13a2) ∧ (PR 30 6 0 0 8 L13a5) ∧ (PR 30 6 1 0 10 L13a5) ∧ (PR 30 6 2 0 4 L13a5) ∧ (PR 30 6 3 0 6 L13a5) ∧ (PR 30 6 4 0 2 L13a5) ∧ (PR 30 6 5 0 40 L13a5) ∧ (PR 250 5 0 0 7 L13a6) ∧ (PR 250 5 1 0 7 L13a6) ∧ (PR 250 5 2 0 60 L13a6) ∧ (PR 250 5 3 0 10 L13a6) ∧ (0 ≤ L13f7x7.toInt ∧ L13f7x7.toInt ≤ 1000) ∧ (L13f7x7.toInt ≤ v6.toInt) ∧ (0 ≤ L13f7x7.toInt) ∧ (TK L13a5 L13a6) ∧ va_P D vwCl [(m19, .inl (k 0, 40, .inl L13a0)), (m20, .inl (k 0, 120, .inl L13a1)), (m21, .inl (k 0, 20, .inl L13a2)), (m22, .inl (k 0, 600, .inl f22)), (m16, .inl (k 0, 5, .inl L13a4)), (m17, .inl (k 0, 30, .inl L13a5)), (m18, .inl (k 0, 250, .inl L13a6)), (mo, .inr (12, [.int 0, .ref m1, .ref m2, .ref m3, .ref m4, .ref m5, .int v6, .int L13f7x7, .int L13f7x8, .int L13f7x9, .int L13f7x10, .long L13f7x11, .int L13f7x12, .int L13f7x13, .int v14, .int v15, .ref m16, .ref m17, .ref m18, .ref m19, .ref m20, .ref m21, .ref m22, .ref m23, .int v24, .ref m25, .ref m26, .ref m27, .ref m28, .ref m29, .int v30, .ref m31, .ref m32, .ref m33, .int v34, .int v35, .int v36, .ref m37, .ref m38, .ref m39, .ref m40, .long v41])), (m5, .inl (k 1, 1000, .inl f5))] H ∧ va_D A [(m19, .inl (k 0, 40, .inl L13a0)), (m20, .inl (k 0, 120, .inl L13a1)), (m21, .inl (k 0, 20, .inl L13a2)), (m22, .inl (k 0, 600, .inl f22)), (m16, .inl (k 0, 5, .inl L13a4)), (m17, .inl (k 0, 30, .inl L13a5)), (m18, .inl (k 0, 250, .inl L13a6)), (mo, .inr (12, [.int 0, .ref m1, .ref m2, .ref m3, .ref m4, .ref m5, .int v6, .int L13f7x7, .int L13f7x8, .int L13f7x9, .int L13f7x10, .long L13f7x11, .int L13f7x12, .int L13f7x13, .int v14, .int v15, .ref m16, .ref m17, .ref m18, .ref m19, .ref m20, .ref m21, .ref m22, .ref m23, .int v24, .ref m25, .ref m26, .ref m27, .ref m28, .ref m29, .int v30, .ref m31, .ref m32, .ref m33, .int v34, .int v35, .int v36, .ref m37, .ref m38, .ref m39, .ref m40, .long v41])), (m5, .inl (k 1, 1000, .inl f5))] ∧ va_S A s.heap H locs ∧ lv_has ls 1 [(0, .ref mo)]) (fun n9 H locs ls hI ih_27 => ?_) _ _ _ _ ⟨f19, f20, f21, o_2, o_3, f18, o_13, o_14, o_15, o_16, o_17, o_18, o_19, rfl, hp_f19_0, hp_f19_1, hp_f20_0, hp_f21_0, hp_f21_1, hw_5, hw_6, hw_7, hw_8, hw_9, hw_10, hp_f18_0, hp_f18_1, hp_f18_2, hp_f18_3, (show 0 ≤ o_13.toInt ∧ o_13.toInt ≤ 1000 from by omega), (show o_13.toInt ≤ v6.toInt from by omega), (show 0 ≤ o_13.toInt from by omega), hw_11, hP.sub (ws' := [(m19, .inl (k 0, 40, .inl f19)), (m20, .inl (k 0, 120, .inl f20)), (m21, .inl (k 0, 20, .inl f21)), (m22, .inl (k 0, 600, .inl f22)), (m16, .inl (k 0, 5, .inl o_2)), (m17, .inl (k 0, 30, .inl o_3)), (m18, .inl (k 0, 250, .inl f18)), (mo, .inr (12, [.int 0, .ref m1, .ref m2, .ref m3, .ref m4, .ref m5, .int v6, .int o_13, .int o_14, .int o_15, .int o_16, .long o_17, .int o_18, .int o_19, .int v14, .int v15, .ref m16, .ref m17, .ref m18, .ref m19, .ref m20, .ref m21, .ref m22, .ref m23, .int v24, .ref m25, .ref m26, .ref m27, .ref m28, .ref m29, .int v30, .ref m31, .ref m32, .ref m33, .int v34, .int v35, .int v36, .ref m37, .ref m38, .ref m39, .ref m40, .long v41])), (m5, .inl (k 1, 1000, .inl f5))]) [0, 1, 2, 3, 4, 5, 6, 7, 8] rfl, hD.sub (ws' := [(m19, .inl (k 0, 40, .inl f19)), (m20, .inl (k 0, 120, .inl f20)), (m21, .inl (k 0, 20, .inl f21)), (m22, .inl (k 0, 600, .inl f22)), (m16, .inl (k 0, 5, .inl o_2)), (m17, .inl (k 0, 30, .inl o_3)), (m18, .inl (k 0, 250, .inl f18)), (mo, .inr (12, [.int 0, .ref m1, .ref m2, .ref m3, .ref m4, .ref m5, .int v6, .int o_13, .int o_14, .int o_15, .int o_16, .long o_17, .int o_18, .int o_19, .int v14, .int v15, .ref m16, .ref m17, .ref m18, .ref m19, .ref m20, .ref m21, .ref m22, .ref m23, .int v24, .ref m25, .ref m26, .ref m27, .ref m28, .ref m29, .int v30, .ref m31, .ref m32, .ref m33, .int v34, .int v35, .int v36, .ref m37, .ref m38, .ref m39, .ref m40, .long v41])), (m5, .inl (k 1, 1000, .inl f5))]) [0, 1, 2, 3, 4, 5, 6, 7, 8] (by decide) rfl, hS, lv_sub hl [0] rfl⟩
  clear hP hD hS hl
  obtain ⟨L13a0, L13a1, L13a2, L13a4, L13a5, L13a6, L13f7x7, L13f7x8, L13f7x9, L13f7x10, L13f7x11, L13f7x12, L13f7x13, en_28, L13a0h0, L13a0h1, L13a1h0, L13a2h0, L13a2h1, L13a5h0, L13a5h1, L13a5h2, L13a5h3, L13a5h4, L13a5h5, L13a6h0, L13a6h1, L13a6h2, L13a6h3, zL13f7x7, hi13x0, hi13x1, hi13x2, hP, hD, hS, hl⟩ := hI
  refine lv_aload_n hx hb dX12_town_13 rfl (lv_at hl 0 rfl) ?_
  have hPc := hP.sub (ws' := [(mo, .inr (12, [.int 0, .ref m1, .ref m2, .ref m3, .ref m4, .ref m5, .int v6, .int L13f7x7, .int L13f7x8, .int L13f7x9, .int L13f7x10, .long L13f7x11, .int L13f7x12, .int L13f7x13, .int v14, .int v15, .ref m16, .ref m17, .ref m18, .ref m19, .ref m20, .ref m21, .ref m22, .ref m23, .int v24, .ref m25, .ref m26, .ref m27, .ref m28, .ref m29, .int v30, .ref m31, .ref m32, .ref m33, .int v34, .int v35, .int v36, .ref m37, .ref m38, .ref m39, .ref m40, .long v41]))]) [7] rfl
  have hDc := hD.sub (ws' := [(mo, .inr (12, [.int 0, .ref m1, .ref m2, .ref m3, .ref m4, .ref m5, .int v6, .int L13f7x7, .int L13f7x8, .int L13f7x9, .int L13f7x10, .long L13f7x11, .int L13f7x12, .int L13f7x13, .int v14, .int v15, .ref m16, .ref m17, .ref m18, .ref m19, .ref m20, .ref m21, .ref m22, .ref m23, .int v24, .ref m25, .ref m26, .ref m27, .ref m28, .ref m29, .int v30, .ref m31, .ref m32, .ref m33, .int v34, .int v35, .int v36, .ref m37, .ref m38, .ref m39, .ref m40, .long v41]))]) [7] (by decide) rfl
  have hFc := va_free (wc := [(mo, .inr (12, [.int 0, .ref m1, .ref m2, .ref m3, .ref m4, .ref m5, .int v6, .int L13f7x7, .int L13f7x8, .int L13f7x9, .int L13f7x10, .long L13f7x11, .int L13f7x12, .int L13f7x13, .int v14, .int v15, .ref m16, .ref m17, .ref m18, .ref m19, .ref m20, .ref m21, .ref m22, .ref m23, .int v24, .ref m25, .ref m26, .ref m27, .ref m28, .ref m29, .int v30, .ref m31, .ref m32, .ref m33, .int v34, .int v35, .int v36, .ref m37, .ref m38, .ref m39, .ref m40, .long v41]))]) hD hS hA [7] rfl
  refine va_calli (va_runV (C := RX12) (As := []) (rest := []) ⟨hx, hb, hml, hown, hts⟩ (c_X12_isGood l D k mo 0 m1 m2 m3 m4 m5 v6 L13f7x7 L13f7x8 L13f7x9 L13f7x10 L13f7x11 L13f7x12 L13f7x13 v14 v15 m16 m17 m18 m19 m20 m21 m22 m23 v24 m25 m26 m27 m28 m29 v30 m31 m32 m33 v34 v35 v36 m37 m38 m39 m40 v41 H.size (show 0 ≤ v6.toInt ∧ v6.toInt ≤ 1000 from by omega) (show 0 ≤ v24.toInt ∧ v24.toInt ≤ 1023 from by omega)) (cwV 0 hts (gV tw_7_7 tw_7_9 tw_p_41 tw_1_13 tw_7_10) rfl rfl rfl hdV_X12_isGood ⟨Nat.le_of_ble_eq_true rfl, Nat.le_of_ble_eq_true rfl⟩) (cz_V hK hPc hDc hN (ci := 12) (q0 := 0) rfl rfl []) rfl rfl hl.1 rfl (lv_room (Nat.le_of_ble_eq_true rfl)) dX12_town_14 ⟨Nat.le_of_ble_eq_true rfl, Nat.le_of_ble_eq_true rfl⟩) hS (fun q _ h => hFc q h) hFc (fun r_29 uZ tZ H1 locs ht hvm hw hB hz1 hk1 hS => ?_)
  obtain ⟨hP1, hK1, hD1⟩ := hB
  rw [ht] at hP1
  obtain ⟨hP, hD⟩ := va_join (wr := [(m19, .inl (k 0, 40, .inl L13a0)), (m20, .inl (k 0, 120, .inl L13a1)), (m21, .inl (k 0, 20, .inl L13a2)), (m22, .inl (k 0, 600, .inl f22)), (m16, .inl (k 0, 5, .inl L13a4)), (m17, .inl (k 0, 30, .inl L13a5)), (m18, .inl (k 0, 250, .inl L13a6)), (m5, .inl (k 1, 1000, .inl f5))]) (w1 := [(mo, .inr (12, [.int 0, .ref m1, .ref m2, .ref m3, .ref m4, .ref m5, .int v6, .int L13f7x7, .int L13f7x8, .int L13f7x9, .int L13f7x10, .long L13f7x11, .int L13f7x12, .int L13f7x13, .int v14, .int v15, .ref m16, .ref m17, .ref m18, .ref m19, .ref m20, .ref m21, .ref m22, .ref m23, .int v24, .ref m25, .ref m26, .ref m27, .ref m28, .ref m29, .int v30, .ref m31, .ref m32, .ref m33, .int v34, .int v35, .int v36, .ref m37, .ref m38, .ref m39, .ref m40, .long v41]))]) hP hD [7] [0, 1, 2, 3, 4, 5, 6, 8] rfl rfl (by decide) (by decide) hk1 hFc hP1 hD1
  clear hK1 hP1 hD1 hPc hDc hFc
  clear hk1 hz1 ht hvm
  have hP : va_P D vwCl [(m19, .inl (k 0, 40, .inl L13a0)), (m20, .inl (k 0, 120, .inl L13a1)), (m21, .inl (k 0, 20, .inl L13a2)), (m22, .inl (k 0, 600, .inl f22)), (m16, .inl (k 0, 5, .inl L13a4)), (m17, .inl (k 0, 30, .inl L13a5)), (m18, .inl (k 0, 250, .inl L13a6)), (m5, .inl (k 1, 1000, .inl f5)), (mo, .inr (12, [.int 0, .ref m1, .ref m2, .ref m3, .ref m4, .ref m5, .int v6, .int L13f7x7, .int L13f7x8, .int L13f7x9, .int L13f7x10, .long L13f7x11, .int L13f7x12, .int L13f7x13, .int v14, .int v15, .ref m16, .ref m17, .ref m18, .ref m19, .ref m20, .ref m21, .ref m22, .ref m23, .int v24, .ref m25, .ref m26, .ref m27, .ref m28, .ref m29, .int v30, .ref m31, .ref m32, .ref m33, .int v34, .int v35, .int v36, .ref m37, .ref m38, .ref m39, .ref m40, .long v41]))] H1 := hP
  have hD : va_D A [(m19, .inl (k 0, 40, .inl L13a0)), (m20, .inl (k 0, 120, .inl L13a1)), (m21, .inl (k 0, 20, .inl L13a2)), (m22, .inl (k 0, 600, .inl f22)), (m16, .inl (k 0, 5, .inl L13a4)), (m17, .inl (k 0, 30, .inl L13a5)), (m18, .inl (k 0, 250, .inl L13a6)), (m5, .inl (k 1, 1000, .inl f5)), (mo, .inr (12, [.int 0, .ref m1, .ref m2, .ref m3, .ref m4, .ref m5, .int v6, .int L13f7x7, .int L13f7x8, .int L13f7x9, .int L13f7x10, .long L13f7x11, .int L13f7x12, .int L13f7x13, .int v14, .int v15, .ref m16, .ref m17, .ref m18, .ref m19, .ref m20, .ref m21, .ref m22, .ref m23, .int v24, .ref m25, .ref m26, .ref m27, .ref m28, .ref m29, .int v30, .ref m31, .ref m32, .ref m33, .int v34, .int v35, .int v36, .ref m37, .ref m38, .ref m39, .ref m40, .long v41]))] := hD
  generalize H1 = H at hP hS ⊢
  have hw_30 : (0 ≤ r_29.toInt ∧ r_29.toInt ≤ 1) ∧ ((r_29.toInt = 1 ∧ L13f7x12.toInt = 0) ∨ (r_29.toInt = 0 ∧ ¬ L13f7x12.toInt = 0)) := hw
  obtain ⟨hw_31, hw_32⟩ := hw_30
  clear hw
  refine lv_if_eq (tgt := 89) hx hb dX12_town_17 (by decide) (fun h_33 => ?_) (fun h_33 => ?_)
  · skip
    have zh_33 : r_29.toInt = 0 := z_eq h_33
    refine lv_aload_n hx hb dX12_town_89 rfl (lv_at hl 0 rfl) ?_
    have hPc := hP.sub (ws' := [(mo, .inr (12, [.int 0, .ref m1, .ref m2, .ref m3, .ref m4, .ref m5, .int v6, .int L13f7x7, .int L13f7x8, .int L13f7x9, .int L13f7x10, .long L13f7x11, .int L13f7x12, .int L13f7x13, .int v14, .int v15, .ref m16, .ref m17, .ref m18, .ref m19, .ref m20, .ref m21, .ref m22, .ref m23, .int v24, .ref m25, .ref m26, .ref m27, .ref m28, .ref m29, .int v30, .ref m31, .ref m32, .ref m33, .int v34, .int v35, .int v36, .ref m37, .ref m38, .ref m39, .ref m40, .long v41]))]) [8] rfl
    have hDc := hD.sub (ws' := [(mo, .inr (12, [.int 0, .ref m1, .ref m2, .ref m3, .ref m4, .ref m5, .int v6, .int L13f7x7, .int L13f7x8, .int L13f7x9, .int L13f7x10, .long L13f7x11, .int L13f7x12, .int L13f7x13, .int v14, .int v15, .ref m16, .ref m17, .ref m18, .ref m19, .ref m20, .ref m21, .ref m22, .ref m23, .int v24, .ref m25, .ref m26, .ref m27, .ref m28, .ref m29, .int v30, .ref m31, .ref m32, .ref m33, .int v34, .int v35, .int v36, .ref m37, .ref m38, .ref m39, .ref m40, .long v41]))]) [8] (by decide) rfl
    have hFc := va_free (wc := [(mo, .inr (12, [.int 0, .ref m1, .ref m2, .ref m3, .ref m4, .ref m5, .int v6, .int L13f7x7, .int L13f7x8, .int L13f7x9, .int L13f7x10, .long L13f7x11, .int L13f7x12, .int L13f7x13, .int v14, .int v15, .ref m16, .ref m17, .ref m18, .ref m19, .ref m20, .ref m21, .ref m22, .ref m23, .int v24, .ref m25, .ref m26, .ref m27, .ref m28, .ref m29, .int v30, .ref m31, .ref m32, .ref m33, .int v34, .int v35, .int v36, .ref m37, .ref m38, .ref m39, .ref m40, .long v41]))]) hD hS hA [8] rfl
    refine va_callv (va_runV (C := RX12) (As := []) (rest := []) ⟨hx, hb, hml, hown, hts⟩ (c_X12_isOver l D k mo 0 m1 m2 m3 m4 m5 v6 L13f7x7 L13f7x8 L13f7x9 L13f7x10 L13f7x11 L13f7x12 L13f7x13 v14 v15 m16 m17 m18 m19 m20 m21 m22 m23 v24 m25 m26 m27 m28 m29 v30 m31 m32 m33 v34 v35 v36 m37 m38 m39 m40 v41 H.size (show 0 ≤ v6.toInt ∧ v6.toInt ≤ 1000 from by omega) (show 0 ≤ v24.toInt ∧ v24.toInt ≤ 1023 from by omega)) (cwV 0 hts (gV tw_7_83 tw_7_85 tw_p_56 tw_1_13 tw_7_86) rfl rfl rfl hdV_X12_isOver ⟨Nat.le_of_ble_eq_true rfl, Nat.le_of_ble_eq_true rfl⟩) (cz_V hK hPc hDc hN (ci := 12) (q0 := 0) rfl rfl []) rfl rfl hl.1 rfl (lv_room (Nat.le_of_ble_eq_true rfl)) dX12_town_90 ⟨Nat.le_of_ble_eq_true rfl, Nat.le_of_ble_eq_true rfl⟩) hS (fun q _ h => hFc q h) hFc (fun uZ tZ H1 locs ht hvm hw hB hz1 hk1 hS => ?_)
    obtain ⟨o_35, o_36, o_37⟩ := uZ
    obtain ⟨hP1, hK1, hD1⟩ := hB
    rw [ht] at hP1
    obtain ⟨hP, hD⟩ := va_join (wr := [(m19, .inl (k 0, 40, .inl L13a0)), (m20, .inl (k 0, 120, .inl L13a1)), (m21, .inl (k 0, 20, .inl L13a2)), (m22, .inl (k 0, 600, .inl f22)), (m16, .inl (k 0, 5, .inl L13a4)), (m17, .inl (k 0, 30, .inl L13a5)), (m18, .inl (k 0, 250, .inl L13a6)), (m5, .inl (k 1, 1000, .inl f5))]) (w1 := [(mo, .inr (12, [.int 0, .ref m1, .ref m2, .ref m3, .ref m4, .ref m5, .int o_35, .int L13f7x7, .int L13f7x8, .int L13f7x9, .int L13f7x10, .long L13f7x11, .int L13f7x12, .int L13f7x13, .int o_36, .int o_37, .ref m16, .ref m17, .ref m18, .ref m19, .ref m20, .ref m21, .ref m22, .ref m23, .int v24, .ref m25, .ref m26, .ref m27, .ref m28, .ref m29, .int v30, .ref m31, .ref m32, .ref m33, .int v34, .int v35, .int v36, .ref m37, .ref m38, .ref m39, .ref m40, .long v41]))]) hP hD [8] [0, 1, 2, 3, 4, 5, 6, 7] rfl rfl (by decide) (by decide) hk1 hFc hP1 hD1
    clear hK1 hP1 hD1 hPc hDc hFc
    clear hk1 hz1 ht hvm
    have hP : va_P D vwCl [(m19, .inl (k 0, 40, .inl L13a0)), (m20, .inl (k 0, 120, .inl L13a1)), (m21, .inl (k 0, 20, .inl L13a2)), (m22, .inl (k 0, 600, .inl f22)), (m16, .inl (k 0, 5, .inl L13a4)), (m17, .inl (k 0, 30, .inl L13a5)), (m18, .inl (k 0, 250, .inl L13a6)), (m5, .inl (k 1, 1000, .inl f5)), (mo, .inr (12, [.int 0, .ref m1, .ref m2, .ref m3, .ref m4, .ref m5, .int o_35, .int L13f7x7, .int L13f7x8, .int L13f7x9, .int L13f7x10, .long L13f7x11, .int L13f7x12, .int L13f7x13, .int o_36, .int o_37, .ref m16, .ref m17, .ref m18, .ref m19, .ref m20, .ref m21, .ref m22, .ref m23, .int v24, .ref m25, .ref m26, .ref m27, .ref m28, .ref m29, .int v30, .ref m31, .ref m32, .ref m33, .int v34, .int v35, .int v36, .ref m37, .ref m38, .ref m39, .ref m40, .long v41]))] H1 := hP
    have hD : va_D A [(m19, .inl (k 0, 40, .inl L13a0)), (m20, .inl (k 0, 120, .inl L13a1)), (m21, .inl (k 0, 20, .inl L13a2)), (m22, .inl (k 0, 600, .inl f22)), (m16, .inl (k 0, 5, .inl L13a4)), (m17, .inl (k 0, 30, .inl L13a5)), (m18, .inl (k 0, 250, .inl L13a6)), (m5, .inl (k 1, 1000, .inl f5)), (mo, .inr (12, [.int 0, .ref m1, .ref m2, .ref m3, .ref m4, .ref m5, .int o_35, .int L13f7x7, .int L13f7x8, .int L13f7x9, .int L13f7x10, .long L13f7x11, .int L13f7x12, .int L13f7x13, .int o_36, .int o_37, .ref m16, .ref m17, .ref m18, .ref m19, .ref m20, .ref m21, .ref m22, .ref m23, .int v24, .ref m25, .ref m26, .ref m27, .ref m28, .ref m29, .int v30, .ref m31, .ref m32, .ref m33, .int v34, .int v35, .int v36, .ref m37, .ref m38, .ref m39, .ref m40, .long v41]))] := hD
    generalize H1 = H at hP hS ⊢
    have hw_38 : (0 ≤ o_35.toInt ∧ o_35.toInt ≤ 0) := hw
    have hw_39 := hw_38
    clear hw
    refine lv_aload_n hx hb dX12_town_93 rfl (lv_at hl 0 rfl) ?_
    refine va_get (D := D) (ci := 12) (v := .int L13f7x12) (C := RX12) (T := TX12) (N := 42) hx hb hts iT_X12 hown hK hP 8 rfl rfl 12 (by decide) (hts _ tw_6_65) (fun _ h9 => h9) rfl dX12_town_94 ?_
    refine lv_if_eq (tgt := 103) hx hb dX12_town_97 (by decide) (fun h_40 => ?_) (fun h_40 => ?_)
    · skip
      have zh_40 : L13f7x12.toInt = 0 := z_eq h_40
      refine lv_aload_n hx hb dX12_town_103 rfl (lv_at hl 0 rfl) ?_
      refine lv_iconst (v := 4) hx hb dX12_town_104 (by decide) ?_
      refine lv_iconst (v := 0) hx hb dX12_town_105 (by decide) ?_
      have hPc := hP.sub (ws' := [(mo, .inr (12, [.int 0, .ref m1, .ref m2, .ref m3, .ref m4, .ref m5, .int o_35, .int L13f7x7, .int L13f7x8, .int L13f7x9, .int L13f7x10, .long L13f7x11, .int L13f7x12, .int L13f7x13, .int o_36, .int o_37, .ref m16, .ref m17, .ref m18, .ref m19, .ref m20, .ref m21, .ref m22, .ref m23, .int v24, .ref m25, .ref m26, .ref m27, .ref m28, .ref m29, .int v30, .ref m31, .ref m32, .ref m33, .int v34, .int v35, .int v36, .ref m37, .ref m38, .ref m39, .ref m40, .long v41])), (m16, .inl (k 0, 5, .inl L13a4)), (m17, .inl (k 0, 30, .inl L13a5)), (m18, .inl (k 0, 250, .inl L13a6)), (m19, .inl (k 0, 40, .inl L13a0)), (m20, .inl (k 0, 120, .inl L13a1)), (m21, .inl (k 0, 20, .inl L13a2)), (m22, .inl (k 0, 600, .inl f22))]) [8, 4, 5, 6, 0, 1, 2, 3] rfl
      have hDc := hD.sub (ws' := [(mo, .inr (12, [.int 0, .ref m1, .ref m2, .ref m3, .ref m4, .ref m5, .int o_35, .int L13f7x7, .int L13f7x8, .int L13f7x9, .int L13f7x10, .long L13f7x11, .int L13f7x12, .int L13f7x13, .int o_36, .int o_37, .ref m16, .ref m17, .ref m18, .ref m19, .ref m20, .ref m21, .ref m22, .ref m23, .int v24, .ref m25, .ref m26, .ref m27, .ref m28, .ref m29, .int v30, .ref m31, .ref m32, .ref m33, .int v34, .int v35, .int v36, .ref m37, .ref m38, .ref m39, .ref m40, .long v41])), (m16, .inl (k 0, 5, .inl L13a4)), (m17, .inl (k 0, 30, .inl L13a5)), (m18, .inl (k 0, 250, .inl L13a6)), (m19, .inl (k 0, 40, .inl L13a0)), (m20, .inl (k 0, 120, .inl L13a1)), (m21, .inl (k 0, 20, .inl L13a2)), (m22, .inl (k 0, 600, .inl f22))]) [8, 4, 5, 6, 0, 1, 2, 3] (by decide) rfl
      have hFc := va_free (wc := [(mo, .inr (12, [.int 0, .ref m1, .ref m2, .ref m3, .ref m4, .ref m5, .int o_35, .int L13f7x7, .int L13f7x8, .int L13f7x9, .int L13f7x10, .long L13f7x11, .int L13f7x12, .int L13f7x13, .int o_36, .int o_37, .ref m16, .ref m17, .ref m18, .ref m19, .ref m20, .ref m21, .ref m22, .ref m23, .int v24, .ref m25, .ref m26, .ref m27, .ref m28, .ref m29, .int v30, .ref m31, .ref m32, .ref m33, .int v34, .int v35, .int v36, .ref m37, .ref m38, .ref m39, .ref m40, .long v41])), (m16, .inl (k 0, 5, .inl L13a4)), (m17, .inl (k 0, 30, .inl L13a5)), (m18, .inl (k 0, 250, .inl L13a6)), (m19, .inl (k 0, 40, .inl L13a0)), (m20, .inl (k 0, 120, .inl L13a1)), (m21, .inl (k 0, 20, .inl L13a2)), (m22, .inl (k 0, 600, .inl f22))]) hD hS hA [8, 4, 5, 6, 0, 1, 2, 3] rfl
      refine va_callv (va_runV (C := RX12) (As := [.int 4, .int 0]) (rest := []) ⟨hx, hb, hml, hown, hts⟩ (c_X12_copyTown l D k mo 4 0 0 m1 m2 m3 m4 m5 o_35 L13f7x7 L13f7x8 L13f7x9 L13f7x10 L13f7x11 L13f7x12 L13f7x13 o_36 o_37 m16 m17 m18 m19 m20 m21 m22 m23 v24 m25 m26 m27 m28 m29 v30 m31 m32 m33 v34 v35 v36 m37 m38 m39 m40 v41 L13a4 L13a5 L13a6 L13a0 L13a1 L13a2 f22 H.size (show 0 ≤ 4 ∧ 4 ≤ 4 from by omega) (show 0 ≤ 0 ∧ 0 ≤ 4 from by omega) (show 0 ≤ o_35.toInt ∧ o_35.toInt ≤ 1000 from by omega) (show 0 ≤ v24.toInt ∧ v24.toInt ≤ 1023 from by omega) L13a5h0 L13a5h1 L13a5h2 L13a5h3 L13a5h4 L13a5h5 L13a6h0 L13a6h1 L13a6h2 L13a6h3 L13a0h0 L13a0h1 L13a1h0 L13a2h0 L13a2h1 hp_f22_0 hp_f22_1 hp_f22_2 (show ¬ 4 = 0 from by omega) hi13x2) (cwV 2 hts (gV tw_7_87 tw_7_89 tw_p_57 tw_1_13 tw_7_90) rfl rfl rfl hdV_X12_copyTown ⟨Nat.le_of_ble_eq_true rfl, Nat.le_of_ble_eq_true rfl⟩) (cz_V hK hPc hDc hN (ci := 12) (q0 := 0) rfl rfl [.int 4, .int 0]) rfl rfl hl.1 rfl (lv_room (Nat.le_of_ble_eq_true rfl)) dX12_town_106 ⟨Nat.le_of_ble_eq_true rfl, Nat.le_of_ble_eq_true rfl⟩) hS (fun q _ h => hFc q h) hFc (fun uZ tZ H1 locs ht hvm hw hB hz1 hk1 hS => ?_)
      obtain ⟨o_42, o_43, o_44, o_45, o_46, o_47, o_48⟩ := uZ
      obtain ⟨hP1, hK1, hD1⟩ := hB
      rw [ht] at hP1
      obtain ⟨hP, hD⟩ := va_join (wr := [(m5, .inl (k 1, 1000, .inl f5))]) (w1 := [(mo, .inr (12, [.int 0, .ref m1, .ref m2, .ref m3, .ref m4, .ref m5, .int o_35, .int L13f7x7, .int L13f7x8, .int L13f7x9, .int L13f7x10, .long L13f7x11, .int L13f7x12, .int L13f7x13, .int o_36, .int o_37, .ref m16, .ref m17, .ref m18, .ref m19, .ref m20, .ref m21, .ref m22, .ref m23, .int v24, .ref m25, .ref m26, .ref m27, .ref m28, .ref m29, .int v30, .ref m31, .ref m32, .ref m33, .int v34, .int v35, .int v36, .ref m37, .ref m38, .ref m39, .ref m40, .long v41])), (m16, .inl (k 0, 5, .inl o_42)), (m17, .inl (k 0, 30, .inl o_43)), (m18, .inl (k 0, 250, .inl o_44)), (m19, .inl (k 0, 40, .inl o_45)), (m20, .inl (k 0, 120, .inl o_46)), (m21, .inl (k 0, 20, .inl o_47)), (m22, .inl (k 0, 600, .inl o_48))]) hP hD [8, 4, 5, 6, 0, 1, 2, 3] [7] rfl rfl (by decide) (by decide) hk1 hFc hP1 hD1
      clear hK1 hP1 hD1 hPc hDc hFc
      clear hk1 hz1 ht hvm
      have hP : va_P D vwCl [(m5, .inl (k 1, 1000, .inl f5)), (mo, .inr (12, [.int 0, .ref m1, .ref m2, .ref m3, .ref m4, .ref m5, .int o_35, .int L13f7x7, .int L13f7x8, .int L13f7x9, .int L13f7x10, .long L13f7x11, .int L13f7x12, .int L13f7x13, .int o_36, .int o_37, .ref m16, .ref m17, .ref m18, .ref m19, .ref m20, .ref m21, .ref m22, .ref m23, .int v24, .ref m25, .ref m26, .ref m27, .ref m28, .ref m29, .int v30, .ref m31, .ref m32, .ref m33, .int v34, .int v35, .int v36, .ref m37, .ref m38, .ref m39, .ref m40, .long v41])), (m16, .inl (k 0, 5, .inl o_42)), (m17, .inl (k 0, 30, .inl o_43)), (m18, .inl (k 0, 250, .inl o_44)), (m19, .inl (k 0, 40, .inl o_45)), (m20, .inl (k 0, 120, .inl o_46)), (m21, .inl (k 0, 20, .inl o_47)), (m22, .inl (k 0, 600, .inl o_48))] H1 := hP
      have hD : va_D A [(m5, .inl (k 1, 1000, .inl f5)), (mo, .inr (12, [.int 0, .ref m1, .ref m2, .ref m3, .ref m4, .ref m5, .int o_35, .int L13f7x7, .int L13f7x8, .int L13f7x9, .int L13f7x10, .long L13f7x11, .int L13f7x12, .int L13f7x13, .int o_36, .int o_37, .ref m16, .ref m17, .ref m18, .ref m19, .ref m20, .ref m21, .ref m22, .ref m23, .int v24, .ref m25, .ref m26, .ref m27, .ref m28, .ref m29, .int v30, .ref m31, .ref m32, .ref m33, .int v34, .int v35, .int v36, .ref m37, .ref m38, .ref m39, .ref m40, .long v41])), (m16, .inl (k 0, 5, .inl o_42)), (m17, .inl (k 0, 30, .inl o_43)), (m18, .inl (k 0, 250, .inl o_44)), (m19, .inl (k 0, 40, .inl o_45)), (m20, .inl (k 0, 120, .inl o_46)), (m21, .inl (k 0, 20, .inl o_47)), (m22, .inl (k 0, 600, .inl o_48))] := hD
      generalize H1 = H at hP hS ⊢
      have hw_49 : (PR 30 6 0 0 8 o_43) ∧ (PR 30 6 1 0 10 o_43) ∧ (PR 30 6 2 0 4 o_43) ∧ (PR 30 6 3 0 6 o_43) ∧ (PR 30 6 4 0 2 o_43) ∧ (PR 30 6 5 0 40 o_43) ∧ (PR 250 5 0 0 7 o_44) ∧ (PR 250 5 1 0 7 o_44) ∧ (PR 250 5 2 0 60 o_44) ∧ (PR 250 5 3 0 10 o_44) ∧ (PR 40 2 0 0 7 o_45) ∧ (PR 40 2 1 0 99 o_45) ∧ (PR 120 4 0 0 7 o_46) ∧ (PR 20 2 0 0 7 o_47) ∧ (PR 20 2 1 0 999 o_47) ∧ (PR 600 3 1 0 9 o_48) ∧ (PR 600 3 2 0 99 o_48) ∧ (AK o_48) ∧ (TK o_43 o_44) := hw
      obtain ⟨hw_50, hw_51, hw_52, hw_53, hw_54, hw_55, hw_56, hw_57, hw_58, hw_59, hw_60, hw_61, hw_62, hw_63, hw_64, hw_65, hw_66, hw_67, hw_68⟩ := hw_49
      clear hw
      refine lv_aload_n hx hb dX12_town_109 rfl (lv_at hl 0 rfl) ?_
      refine va_get (D := D) (ci := 12) (v := .ref m16) (C := RX12) (T := TX12) (N := 42) hx hb hts iT_X12 hown hK hP 1 rfl rfl 16 (by decide) (hts _ tw_6_69) (fun _ h9 => h9) rfl dX12_town_110 ?_
      refine lv_iconst (v := 0) hx hb dX12_town_113 (by decide) ?_
      refine va_iald hx hb hK hP 2 0 rfl rfl (z_in (by decide) (by decide)) dX12_town_114 ?_
      refine lv_topi (fun x_69 ex_69 => ?_)
      have hP9 := hP.sub (ws' := [(mo, .inr (12, [.int 0, .ref m1, .ref m2, .ref m3, .ref m4, .ref m5, .int o_35, .int L13f7x7, .int L13f7x8, .int L13f7x9, .int L13f7x10, .long L13f7x11, .int L13f7x12, .int L13f7x13, .int o_36, .int o_37, .ref m16, .ref m17, .ref m18, .ref m19, .ref m20, .ref m21, .ref m22, .ref m23, .int v24, .ref m25, .ref m26, .ref m27, .ref m28, .ref m29, .int v30, .ref m31, .ref m32, .ref m33, .int v34, .int v35, .int v36, .ref m37, .ref m38, .ref m39, .ref m40, .long v41])), (m5, .inl (k 1, 1000, .inl f5)), (m16, .inl (k 0, 5, .inl o_42)), (m17, .inl (k 0, 30, .inl o_43)), (m18, .inl (k 0, 250, .inl o_44)), (m19, .inl (k 0, 40, .inl o_45)), (m20, .inl (k 0, 120, .inl o_46)), (m21, .inl (k 0, 20, .inl o_47)), (m22, .inl (k 0, 600, .inl o_48))]) [1, 0, 2, 3, 4, 5, 6, 7, 8] rfl
      have hD9 := hD.sub (ws' := [(mo, .inr (12, [.int 0, .ref m1, .ref m2, .ref m3, .ref m4, .ref m5, .int o_35, .int L13f7x7, .int L13f7x8, .int L13f7x9, .int L13f7x10, .long L13f7x11, .int L13f7x12, .int L13f7x13, .int o_36, .int o_37, .ref m16, .ref m17, .ref m18, .ref m19, .ref m20, .ref m21, .ref m22, .ref m23, .int v24, .ref m25, .ref m26, .ref m27, .ref m28, .ref m29, .int v30, .ref m31, .ref m32, .ref m33, .int v34, .int v35, .int v36, .ref m37, .ref m38, .ref m39, .ref m40, .long v41])), (m5, .inl (k 1, 1000, .inl f5)), (m16, .inl (k 0, 5, .inl o_42)), (m17, .inl (k 0, 30, .inl o_43)), (m18, .inl (k 0, 250, .inl o_44)), (m19, .inl (k 0, 40, .inl o_45)), (m20, .inl (k 0, 120, .inl o_46)), (m21, .inl (k 0, 20, .inl o_47)), (m22, .inl (k 0, 600, .inl o_48))]) [1, 0, 2, 3, 4, 5, 6, 7, 8] (by decide) rfl
      exact W.iret (v := x_69) hx hb hr (fun tZ ht hW => ⟨⟨x_69, (0, o_35, L13f7x7, L13f7x8, L13f7x9, L13f7x10, L13f7x11, L13f7x12, L13f7x13, o_36, o_37, o_42, o_43, o_44, o_45, o_46, o_47, o_48), rfl, ⟨(show 0 ≤ 0 ∧ 0 ≤ 0 from by omega), (show 0 ≤ o_35.toInt ∧ o_35.toInt ≤ 0 from by omega), (show 0 ≤ L13f7x7.toInt ∧ L13f7x7.toInt ≤ 1000 from by omega), hw_50, hw_51, hw_52, hw_53, hw_54, hw_55, hw_56, hw_57, hw_58, hw_59, hw_60, hw_61, hw_62, hw_63, hw_64, hw_65, hw_66, hw_67, hw_68⟩, by rw [ht]; exact hP9, va_K.moved hW.alike hK, hD9⟩, hS.F ht⟩) hS.2.2 dX12_town_115
    · skip
      have zh_40 : ¬ L13f7x12.toInt = 0 := z_ne h_40
      refine lv_bipush (v := (-4)) hx hb dX12_town_100 (by decide) ?_
      have hP9 := hP.sub (ws' := [(mo, .inr (12, [.int 0, .ref m1, .ref m2, .ref m3, .ref m4, .ref m5, .int o_35, .int L13f7x7, .int L13f7x8, .int L13f7x9, .int L13f7x10, .long L13f7x11, .int L13f7x12, .int L13f7x13, .int o_36, .int o_37, .ref m16, .ref m17, .ref m18, .ref m19, .ref m20, .ref m21, .ref m22, .ref m23, .int v24, .ref m25, .ref m26, .ref m27, .ref m28, .ref m29, .int v30, .ref m31, .ref m32, .ref m33, .int v34, .int v35, .int v36, .ref m37, .ref m38, .ref m39, .ref m40, .long v41])), (m5, .inl (k 1, 1000, .inl f5)), (m16, .inl (k 0, 5, .inl L13a4)), (m17, .inl (k 0, 30, .inl L13a5)), (m18, .inl (k 0, 250, .inl L13a6)), (m19, .inl (k 0, 40, .inl L13a0)), (m20, .inl (k 0, 120, .inl L13a1)), (m21, .inl (k 0, 20, .inl L13a2)), (m22, .inl (k 0, 600, .inl f22))]) [8, 7, 4, 5, 6, 0, 1, 2, 3] rfl
      have hD9 := hD.sub (ws' := [(mo, .inr (12, [.int 0, .ref m1, .ref m2, .ref m3, .ref m4, .ref m5, .int o_35, .int L13f7x7, .int L13f7x8, .int L13f7x9, .int L13f7x10, .long L13f7x11, .int L13f7x12, .int L13f7x13, .int o_36, .int o_37, .ref m16, .ref m17, .ref m18, .ref m19, .ref m20, .ref m21, .ref m22, .ref m23, .int v24, .ref m25, .ref m26, .ref m27, .ref m28, .ref m29, .int v30, .ref m31, .ref m32, .ref m33, .int v34, .int v35, .int v36, .ref m37, .ref m38, .ref m39, .ref m40, .long v41])), (m5, .inl (k 1, 1000, .inl f5)), (m16, .inl (k 0, 5, .inl L13a4)), (m17, .inl (k 0, 30, .inl L13a5)), (m18, .inl (k 0, 250, .inl L13a6)), (m19, .inl (k 0, 40, .inl L13a0)), (m20, .inl (k 0, 120, .inl L13a1)), (m21, .inl (k 0, 20, .inl L13a2)), (m22, .inl (k 0, 600, .inl f22))]) [8, 7, 4, 5, 6, 0, 1, 2, 3] (by decide) rfl
      exact W.iret (v := (-4)) hx hb hr (fun tZ ht hW => ⟨⟨(-4), (0, o_35, L13f7x7, L13f7x8, L13f7x9, L13f7x10, L13f7x11, L13f7x12, L13f7x13, o_36, o_37, L13a4, L13a5, L13a6, L13a0, L13a1, L13a2, f22), rfl, ⟨(show 0 ≤ 0 ∧ 0 ≤ 0 from by omega), (show 0 ≤ o_35.toInt ∧ o_35.toInt ≤ 0 from by omega), (show 0 ≤ L13f7x7.toInt ∧ L13f7x7.toInt ≤ 1000 from by omega), L13a5h0, L13a5h1, L13a5h2, L13a5h3, L13a5h4, L13a5h5, L13a6h0, L13a6h1, L13a6h2, L13a6h3, L13a0h0, L13a0h1, L13a1h0, L13a2h0, L13a2h1, hp_f22_0, hp_f22_1, hp_f22_2, hi13x2⟩, by rw [ht]; exact hP9, va_K.moved hW.alike hK, hD9⟩, hS.F ht⟩) hS.2.2 dX12_town_102
  · skip
    have zh_33 : ¬ r_29.toInt = 0 := z_ne h_33
    refine lv_aload_n hx hb dX12_town_20 rfl (lv_at hl 0 rfl) ?_
    refine va_get (D := D) (ci := 12) (v := .int L13f7x8) (C := RX12) (T := TX12) (N := 42) hx hb hts iT_X12 hown hK hP 8 rfl rfl 8 (by decide) (hts _ tw_6_61) (fun _ h9 => h9) rfl dX12_town_21 ?_
    refine lv_if_eq (tgt := 89) hx hb dX12_town_24 (by decide) (fun h_70 => ?_) (fun h_70 => ?_)
    · skip
      have zh_70 : L13f7x8.toInt = 0 := z_eq h_70
      refine lv_aload_n hx hb dX12_town_89 rfl (lv_at hl 0 rfl) ?_
      have hPc := hP.sub (ws' := [(mo, .inr (12, [.int 0, .ref m1, .ref m2, .ref m3, .ref m4, .ref m5, .int v6, .int L13f7x7, .int L13f7x8, .int L13f7x9, .int L13f7x10, .long L13f7x11, .int L13f7x12, .int L13f7x13, .int v14, .int v15, .ref m16, .ref m17, .ref m18, .ref m19, .ref m20, .ref m21, .ref m22, .ref m23, .int v24, .ref m25, .ref m26, .ref m27, .ref m28, .ref m29, .int v30, .ref m31, .ref m32, .ref m33, .int v34, .int v35, .int v36, .ref m37, .ref m38, .ref m39, .ref m40, .long v41]))]) [8] rfl
      have hDc := hD.sub (ws' := [(mo, .inr (12, [.int 0, .ref m1, .ref m2, .ref m3, .ref m4, .ref m5, .int v6, .int L13f7x7, .int L13f7x8, .int L13f7x9, .int L13f7x10, .long L13f7x11, .int L13f7x12, .int L13f7x13, .int v14, .int v15, .ref m16, .ref m17, .ref m18, .ref m19, .ref m20, .ref m21, .ref m22, .ref m23, .int v24, .ref m25, .ref m26, .ref m27, .ref m28, .ref m29, .int v30, .ref m31, .ref m32, .ref m33, .int v34, .int v35, .int v36, .ref m37, .ref m38, .ref m39, .ref m40, .long v41]))]) [8] (by decide) rfl
      have hFc := va_free (wc := [(mo, .inr (12, [.int 0, .ref m1, .ref m2, .ref m3, .ref m4, .ref m5, .int v6, .int L13f7x7, .int L13f7x8, .int L13f7x9, .int L13f7x10, .long L13f7x11, .int L13f7x12, .int L13f7x13, .int v14, .int v15, .ref m16, .ref m17, .ref m18, .ref m19, .ref m20, .ref m21, .ref m22, .ref m23, .int v24, .ref m25, .ref m26, .ref m27, .ref m28, .ref m29, .int v30, .ref m31, .ref m32, .ref m33, .int v34, .int v35, .int v36, .ref m37, .ref m38, .ref m39, .ref m40, .long v41]))]) hD hS hA [8] rfl
      refine va_callv (va_runV (C := RX12) (As := []) (rest := []) ⟨hx, hb, hml, hown, hts⟩ (c_X12_isOver l D k mo 0 m1 m2 m3 m4 m5 v6 L13f7x7 L13f7x8 L13f7x9 L13f7x10 L13f7x11 L13f7x12 L13f7x13 v14 v15 m16 m17 m18 m19 m20 m21 m22 m23 v24 m25 m26 m27 m28 m29 v30 m31 m32 m33 v34 v35 v36 m37 m38 m39 m40 v41 H.size (show 0 ≤ v6.toInt ∧ v6.toInt ≤ 1000 from by omega) (show 0 ≤ v24.toInt ∧ v24.toInt ≤ 1023 from by omega)) (cwV 0 hts (gV tw_7_83 tw_7_85 tw_p_56 tw_1_13 tw_7_86) rfl rfl rfl hdV_X12_isOver ⟨Nat.le_of_ble_eq_true rfl, Nat.le_of_ble_eq_true rfl⟩) (cz_V hK hPc hDc hN (ci := 12) (q0 := 0) rfl rfl []) rfl rfl hl.1 rfl (lv_room (Nat.le_of_ble_eq_true rfl)) dX12_town_90 ⟨Nat.le_of_ble_eq_true rfl, Nat.le_of_ble_eq_true rfl⟩) hS (fun q _ h => hFc q h) hFc (fun uZ tZ H1 locs ht hvm hw hB hz1 hk1 hS => ?_)
      obtain ⟨o_72, o_73, o_74⟩ := uZ
      obtain ⟨hP1, hK1, hD1⟩ := hB
      rw [ht] at hP1
      obtain ⟨hP, hD⟩ := va_join (wr := [(m19, .inl (k 0, 40, .inl L13a0)), (m20, .inl (k 0, 120, .inl L13a1)), (m21, .inl (k 0, 20, .inl L13a2)), (m22, .inl (k 0, 600, .inl f22)), (m16, .inl (k 0, 5, .inl L13a4)), (m17, .inl (k 0, 30, .inl L13a5)), (m18, .inl (k 0, 250, .inl L13a6)), (m5, .inl (k 1, 1000, .inl f5))]) (w1 := [(mo, .inr (12, [.int 0, .ref m1, .ref m2, .ref m3, .ref m4, .ref m5, .int o_72, .int L13f7x7, .int L13f7x8, .int L13f7x9, .int L13f7x10, .long L13f7x11, .int L13f7x12, .int L13f7x13, .int o_73, .int o_74, .ref m16, .ref m17, .ref m18, .ref m19, .ref m20, .ref m21, .ref m22, .ref m23, .int v24, .ref m25, .ref m26, .ref m27, .ref m28, .ref m29, .int v30, .ref m31, .ref m32, .ref m33, .int v34, .int v35, .int v36, .ref m37, .ref m38, .ref m39, .ref m40, .long v41]))]) hP hD [8] [0, 1, 2, 3, 4, 5, 6, 7] rfl rfl (by decide) (by decide) hk1 hFc hP1 hD1
      clear hK1 hP1 hD1 hPc hDc hFc
      clear hk1 hz1 ht hvm
      have hP : va_P D vwCl [(m19, .inl (k 0, 40, .inl L13a0)), (m20, .inl (k 0, 120, .inl L13a1)), (m21, .inl (k 0, 20, .inl L13a2)), (m22, .inl (k 0, 600, .inl f22)), (m16, .inl (k 0, 5, .inl L13a4)), (m17, .inl (k 0, 30, .inl L13a5)), (m18, .inl (k 0, 250, .inl L13a6)), (m5, .inl (k 1, 1000, .inl f5)), (mo, .inr (12, [.int 0, .ref m1, .ref m2, .ref m3, .ref m4, .ref m5, .int o_72, .int L13f7x7, .int L13f7x8, .int L13f7x9, .int L13f7x10, .long L13f7x11, .int L13f7x12, .int L13f7x13, .int o_73, .int o_74, .ref m16, .ref m17, .ref m18, .ref m19, .ref m20, .ref m21, .ref m22, .ref m23, .int v24, .ref m25, .ref m26, .ref m27, .ref m28, .ref m29, .int v30, .ref m31, .ref m32, .ref m33, .int v34, .int v35, .int v36, .ref m37, .ref m38, .ref m39, .ref m40, .long v41]))] H1 := hP
      have hD : va_D A [(m19, .inl (k 0, 40, .inl L13a0)), (m20, .inl (k 0, 120, .inl L13a1)), (m21, .inl (k 0, 20, .inl L13a2)), (m22, .inl (k 0, 600, .inl f22)), (m16, .inl (k 0, 5, .inl L13a4)), (m17, .inl (k 0, 30, .inl L13a5)), (m18, .inl (k 0, 250, .inl L13a6)), (m5, .inl (k 1, 1000, .inl f5)), (mo, .inr (12, [.int 0, .ref m1, .ref m2, .ref m3, .ref m4, .ref m5, .int o_72, .int L13f7x7, .int L13f7x8, .int L13f7x9, .int L13f7x10, .long L13f7x11, .int L13f7x12, .int L13f7x13, .int o_73, .int o_74, .ref m16, .ref m17, .ref m18, .ref m19, .ref m20, .ref m21, .ref m22, .ref m23, .int v24, .ref m25, .ref m26, .ref m27, .ref m28, .ref m29, .int v30, .ref m31, .ref m32, .ref m33, .int v34, .int v35, .int v36, .ref m37, .ref m38, .ref m39, .ref m40, .long v41]))] := hD
      generalize H1 = H at hP hS ⊢
      have hw_75 : (0 ≤ o_72.toInt ∧ o_72.toInt ≤ 0) := hw
      have hw_76 := hw_75
      clear hw
      refine lv_aload_n hx hb dX12_town_93 rfl (lv_at hl 0 rfl) ?_
      refine va_get (D := D) (ci := 12) (v := .int L13f7x12) (C := RX12) (T := TX12) (N := 42) hx hb hts iT_X12 hown hK hP 8 rfl rfl 12 (by decide) (hts _ tw_6_65) (fun _ h9 => h9) rfl dX12_town_94 ?_
      refine lv_if_eq (tgt := 103) hx hb dX12_town_97 (by decide) (fun h_77 => ?_) (fun h_77 => ?_)
      · skip
        have zh_77 : L13f7x12.toInt = 0 := z_eq h_77
        refine lv_aload_n hx hb dX12_town_103 rfl (lv_at hl 0 rfl) ?_
        refine lv_iconst (v := 4) hx hb dX12_town_104 (by decide) ?_
        refine lv_iconst (v := 0) hx hb dX12_town_105 (by decide) ?_
        have hPc := hP.sub (ws' := [(mo, .inr (12, [.int 0, .ref m1, .ref m2, .ref m3, .ref m4, .ref m5, .int o_72, .int L13f7x7, .int L13f7x8, .int L13f7x9, .int L13f7x10, .long L13f7x11, .int L13f7x12, .int L13f7x13, .int o_73, .int o_74, .ref m16, .ref m17, .ref m18, .ref m19, .ref m20, .ref m21, .ref m22, .ref m23, .int v24, .ref m25, .ref m26, .ref m27, .ref m28, .ref m29, .int v30, .ref m31, .ref m32, .ref m33, .int v34, .int v35, .int v36, .ref m37, .ref m38, .ref m39, .ref m40, .long v41])), (m16, .inl (k 0, 5, .inl L13a4)), (m17, .inl (k 0, 30, .inl L13a5)), (m18, .inl (k 0, 250, .inl L13a6)), (m19, .inl (k 0, 40, .inl L13a0)), (m20, .inl (k 0, 120, .inl L13a1)), (m21, .inl (k 0, 20, .inl L13a2)), (m22, .inl (k 0, 600, .inl f22))]) [8, 4, 5, 6, 0, 1, 2, 3] rfl
        have hDc := hD.sub (ws' := [(mo, .inr (12, [.int 0, .ref m1, .ref m2, .ref m3, .ref m4, .ref m5, .int o_72, .int L13f7x7, .int L13f7x8, .int L13f7x9, .int L13f7x10, .long L13f7x11, .int L13f7x12, .int L13f7x13, .int o_73, .int o_74, .ref m16, .ref m17, .ref m18, .ref m19, .ref m20, .ref m21, .ref m22, .ref m23, .int v24, .ref m25, .ref m26, .ref m27, .ref m28, .ref m29, .int v30, .ref m31, .ref m32, .ref m33, .int v34, .int v35, .int v36, .ref m37, .ref m38, .ref m39, .ref m40, .long v41])), (m16, .inl (k 0, 5, .inl L13a4)), (m17, .inl (k 0, 30, .inl L13a5)), (m18, .inl (k 0, 250, .inl L13a6)), (m19, .inl (k 0, 40, .inl L13a0)), (m20, .inl (k 0, 120, .inl L13a1)), (m21, .inl (k 0, 20, .inl L13a2)), (m22, .inl (k 0, 600, .inl f22))]) [8, 4, 5, 6, 0, 1, 2, 3] (by decide) rfl
        have hFc := va_free (wc := [(mo, .inr (12, [.int 0, .ref m1, .ref m2, .ref m3, .ref m4, .ref m5, .int o_72, .int L13f7x7, .int L13f7x8, .int L13f7x9, .int L13f7x10, .long L13f7x11, .int L13f7x12, .int L13f7x13, .int o_73, .int o_74, .ref m16, .ref m17, .ref m18, .ref m19, .ref m20, .ref m21, .ref m22, .ref m23, .int v24, .ref m25, .ref m26, .ref m27, .ref m28, .ref m29, .int v30, .ref m31, .ref m32, .ref m33, .int v34, .int v35, .int v36, .ref m37, .ref m38, .ref m39, .ref m40, .long v41])), (m16, .inl (k 0, 5, .inl L13a4)), (m17, .inl (k 0, 30, .inl L13a5)), (m18, .inl (k 0, 250, .inl L13a6)), (m19, .inl (k 0, 40, .inl L13a0)), (m20, .inl (k 0, 120, .inl L13a1)), (m21, .inl (k 0, 20, .inl L13a2)), (m22, .inl (k 0, 600, .inl f22))]) hD hS hA [8, 4, 5, 6, 0, 1, 2, 3] rfl
        refine va_callv (va_runV (C := RX12) (As := [.int 4, .int 0]) (rest := []) ⟨hx, hb, hml, hown, hts⟩ (c_X12_copyTown l D k mo 4 0 0 m1 m2 m3 m4 m5 o_72 L13f7x7 L13f7x8 L13f7x9 L13f7x10 L13f7x11 L13f7x12 L13f7x13 o_73 o_74 m16 m17 m18 m19 m20 m21 m22 m23 v24 m25 m26 m27 m28 m29 v30 m31 m32 m33 v34 v35 v36 m37 m38 m39 m40 v41 L13a4 L13a5 L13a6 L13a0 L13a1 L13a2 f22 H.size (show 0 ≤ 4 ∧ 4 ≤ 4 from by omega) (show 0 ≤ 0 ∧ 0 ≤ 4 from by omega) (show 0 ≤ o_72.toInt ∧ o_72.toInt ≤ 1000 from by omega) (show 0 ≤ v24.toInt ∧ v24.toInt ≤ 1023 from by omega) L13a5h0 L13a5h1 L13a5h2 L13a5h3 L13a5h4 L13a5h5 L13a6h0 L13a6h1 L13a6h2 L13a6h3 L13a0h0 L13a0h1 L13a1h0 L13a2h0 L13a2h1 hp_f22_0 hp_f22_1 hp_f22_2 (show ¬ 4 = 0 from by omega) hi13x2) (cwV 2 hts (gV tw_7_87 tw_7_89 tw_p_57 tw_1_13 tw_7_90) rfl rfl rfl hdV_X12_copyTown ⟨Nat.le_of_ble_eq_true rfl, Nat.le_of_ble_eq_true rfl⟩) (cz_V hK hPc hDc hN (ci := 12) (q0 := 0) rfl rfl [.int 4, .int 0]) rfl rfl hl.1 rfl (lv_room (Nat.le_of_ble_eq_true rfl)) dX12_town_106 ⟨Nat.le_of_ble_eq_true rfl, Nat.le_of_ble_eq_true rfl⟩) hS (fun q _ h => hFc q h) hFc (fun uZ tZ H1 locs ht hvm hw hB hz1 hk1 hS => ?_)
        obtain ⟨o_79, o_80, o_81, o_82, o_83, o_84, o_85⟩ := uZ
        obtain ⟨hP1, hK1, hD1⟩ := hB
        rw [ht] at hP1
        obtain ⟨hP, hD⟩ := va_join (wr := [(m5, .inl (k 1, 1000, .inl f5))]) (w1 := [(mo, .inr (12, [.int 0, .ref m1, .ref m2, .ref m3, .ref m4, .ref m5, .int o_72, .int L13f7x7, .int L13f7x8, .int L13f7x9, .int L13f7x10, .long L13f7x11, .int L13f7x12, .int L13f7x13, .int o_73, .int o_74, .ref m16, .ref m17, .ref m18, .ref m19, .ref m20, .ref m21, .ref m22, .ref m23, .int v24, .ref m25, .ref m26, .ref m27, .ref m28, .ref m29, .int v30, .ref m31, .ref m32, .ref m33, .int v34, .int v35, .int v36, .ref m37, .ref m38, .ref m39, .ref m40, .long v41])), (m16, .inl (k 0, 5, .inl o_79)), (m17, .inl (k 0, 30, .inl o_80)), (m18, .inl (k 0, 250, .inl o_81)), (m19, .inl (k 0, 40, .inl o_82)), (m20, .inl (k 0, 120, .inl o_83)), (m21, .inl (k 0, 20, .inl o_84)), (m22, .inl (k 0, 600, .inl o_85))]) hP hD [8, 4, 5, 6, 0, 1, 2, 3] [7] rfl rfl (by decide) (by decide) hk1 hFc hP1 hD1
        clear hK1 hP1 hD1 hPc hDc hFc
        clear hk1 hz1 ht hvm
        have hP : va_P D vwCl [(m5, .inl (k 1, 1000, .inl f5)), (mo, .inr (12, [.int 0, .ref m1, .ref m2, .ref m3, .ref m4, .ref m5, .int o_72, .int L13f7x7, .int L13f7x8, .int L13f7x9, .int L13f7x10, .long L13f7x11, .int L13f7x12, .int L13f7x13, .int o_73, .int o_74, .ref m16, .ref m17, .ref m18, .ref m19, .ref m20, .ref m21, .ref m22, .ref m23, .int v24, .ref m25, .ref m26, .ref m27, .ref m28, .ref m29, .int v30, .ref m31, .ref m32, .ref m33, .int v34, .int v35, .int v36, .ref m37, .ref m38, .ref m39, .ref m40, .long v41])), (m16, .inl (k 0, 5, .inl o_79)), (m17, .inl (k 0, 30, .inl o_80)), (m18, .inl (k 0, 250, .inl o_81)), (m19, .inl (k 0, 40, .inl o_82)), (m20, .inl (k 0, 120, .inl o_83)), (m21, .inl (k 0, 20, .inl o_84)), (m22, .inl (k 0, 600, .inl o_85))] H1 := hP
        have hD : va_D A [(m5, .inl (k 1, 1000, .inl f5)), (mo, .inr (12, [.int 0, .ref m1, .ref m2, .ref m3, .ref m4, .ref m5, .int o_72, .int L13f7x7, .int L13f7x8, .int L13f7x9, .int L13f7x10, .long L13f7x11, .int L13f7x12, .int L13f7x13, .int o_73, .int o_74, .ref m16, .ref m17, .ref m18, .ref m19, .ref m20, .ref m21, .ref m22, .ref m23, .int v24, .ref m25, .ref m26, .ref m27, .ref m28, .ref m29, .int v30, .ref m31, .ref m32, .ref m33, .int v34, .int v35, .int v36, .ref m37, .ref m38, .ref m39, .ref m40, .long v41])), (m16, .inl (k 0, 5, .inl o_79)), (m17, .inl (k 0, 30, .inl o_80)), (m18, .inl (k 0, 250, .inl o_81)), (m19, .inl (k 0, 40, .inl o_82)), (m20, .inl (k 0, 120, .inl o_83)), (m21, .inl (k 0, 20, .inl o_84)), (m22, .inl (k 0, 600, .inl o_85))] := hD
        generalize H1 = H at hP hS ⊢
        have hw_86 : (PR 30 6 0 0 8 o_80) ∧ (PR 30 6 1 0 10 o_80) ∧ (PR 30 6 2 0 4 o_80) ∧ (PR 30 6 3 0 6 o_80) ∧ (PR 30 6 4 0 2 o_80) ∧ (PR 30 6 5 0 40 o_80) ∧ (PR 250 5 0 0 7 o_81) ∧ (PR 250 5 1 0 7 o_81) ∧ (PR 250 5 2 0 60 o_81) ∧ (PR 250 5 3 0 10 o_81) ∧ (PR 40 2 0 0 7 o_82) ∧ (PR 40 2 1 0 99 o_82) ∧ (PR 120 4 0 0 7 o_83) ∧ (PR 20 2 0 0 7 o_84) ∧ (PR 20 2 1 0 999 o_84) ∧ (PR 600 3 1 0 9 o_85) ∧ (PR 600 3 2 0 99 o_85) ∧ (AK o_85) ∧ (TK o_80 o_81) := hw
        obtain ⟨hw_87, hw_88, hw_89, hw_90, hw_91, hw_92, hw_93, hw_94, hw_95, hw_96, hw_97, hw_98, hw_99, hw_100, hw_101, hw_102, hw_103, hw_104, hw_105⟩ := hw_86
        clear hw
        refine lv_aload_n hx hb dX12_town_109 rfl (lv_at hl 0 rfl) ?_
        refine va_get (D := D) (ci := 12) (v := .ref m16) (C := RX12) (T := TX12) (N := 42) hx hb hts iT_X12 hown hK hP 1 rfl rfl 16 (by decide) (hts _ tw_6_69) (fun _ h9 => h9) rfl dX12_town_110 ?_
        refine lv_iconst (v := 0) hx hb dX12_town_113 (by decide) ?_
        refine va_iald hx hb hK hP 2 0 rfl rfl (z_in (by decide) (by decide)) dX12_town_114 ?_
        refine lv_topi (fun x_106 ex_106 => ?_)
        have hP9 := hP.sub (ws' := [(mo, .inr (12, [.int 0, .ref m1, .ref m2, .ref m3, .ref m4, .ref m5, .int o_72, .int L13f7x7, .int L13f7x8, .int L13f7x9, .int L13f7x10, .long L13f7x11, .int L13f7x12, .int L13f7x13, .int o_73, .int o_74, .ref m16, .ref m17, .ref m18, .ref m19, .ref m20, .ref m21, .ref m22, .ref m23, .int v24, .ref m25, .ref m26, .ref m27, .ref m28, .ref m29, .int v30, .ref m31, .ref m32, .ref m33, .int v34, .int v35, .int v36, .ref m37, .ref m38, .ref m39, .ref m40, .long v41])), (m5, .inl (k 1, 1000, .inl f5)), (m16, .inl (k 0, 5, .inl o_79)), (m17, .inl (k 0, 30, .inl o_80)), (m18, .inl (k 0, 250, .inl o_81)), (m19, .inl (k 0, 40, .inl o_82)), (m20, .inl (k 0, 120, .inl o_83)), (m21, .inl (k 0, 20, .inl o_84)), (m22, .inl (k 0, 600, .inl o_85))]) [1, 0, 2, 3, 4, 5, 6, 7, 8] rfl
        have hD9 := hD.sub (ws' := [(mo, .inr (12, [.int 0, .ref m1, .ref m2, .ref m3, .ref m4, .ref m5, .int o_72, .int L13f7x7, .int L13f7x8, .int L13f7x9, .int L13f7x10, .long L13f7x11, .int L13f7x12, .int L13f7x13, .int o_73, .int o_74, .ref m16, .ref m17, .ref m18, .ref m19, .ref m20, .ref m21, .ref m22, .ref m23, .int v24, .ref m25, .ref m26, .ref m27, .ref m28, .ref m29, .int v30, .ref m31, .ref m32, .ref m33, .int v34, .int v35, .int v36, .ref m37, .ref m38, .ref m39, .ref m40, .long v41])), (m5, .inl (k 1, 1000, .inl f5)), (m16, .inl (k 0, 5, .inl o_79)), (m17, .inl (k 0, 30, .inl o_80)), (m18, .inl (k 0, 250, .inl o_81)), (m19, .inl (k 0, 40, .inl o_82)), (m20, .inl (k 0, 120, .inl o_83)), (m21, .inl (k 0, 20, .inl o_84)), (m22, .inl (k 0, 600, .inl o_85))]) [1, 0, 2, 3, 4, 5, 6, 7, 8] (by decide) rfl
        exact W.iret (v := x_106) hx hb hr (fun tZ ht hW => ⟨⟨x_106, (0, o_72, L13f7x7, L13f7x8, L13f7x9, L13f7x10, L13f7x11, L13f7x12, L13f7x13, o_73, o_74, o_79, o_80, o_81, o_82, o_83, o_84, o_85), rfl, ⟨(show 0 ≤ 0 ∧ 0 ≤ 0 from by omega), (show 0 ≤ o_72.toInt ∧ o_72.toInt ≤ 0 from by omega), (show 0 ≤ L13f7x7.toInt ∧ L13f7x7.toInt ≤ 1000 from by omega), hw_87, hw_88, hw_89, hw_90, hw_91, hw_92, hw_93, hw_94, hw_95, hw_96, hw_97, hw_98, hw_99, hw_100, hw_101, hw_102, hw_103, hw_104, hw_105⟩, by rw [ht]; exact hP9, va_K.moved hW.alike hK, hD9⟩, hS.F ht⟩) hS.2.2 dX12_town_115
      · skip
        have zh_77 : ¬ L13f7x12.toInt = 0 := z_ne h_77
        refine lv_bipush (v := (-4)) hx hb dX12_town_100 (by decide) ?_
        have hP9 := hP.sub (ws' := [(mo, .inr (12, [.int 0, .ref m1, .ref m2, .ref m3, .ref m4, .ref m5, .int o_72, .int L13f7x7, .int L13f7x8, .int L13f7x9, .int L13f7x10, .long L13f7x11, .int L13f7x12, .int L13f7x13, .int o_73, .int o_74, .ref m16, .ref m17, .ref m18, .ref m19, .ref m20, .ref m21, .ref m22, .ref m23, .int v24, .ref m25, .ref m26, .ref m27, .ref m28, .ref m29, .int v30, .ref m31, .ref m32, .ref m33, .int v34, .int v35, .int v36, .ref m37, .ref m38, .ref m39, .ref m40, .long v41])), (m5, .inl (k 1, 1000, .inl f5)), (m16, .inl (k 0, 5, .inl L13a4)), (m17, .inl (k 0, 30, .inl L13a5)), (m18, .inl (k 0, 250, .inl L13a6)), (m19, .inl (k 0, 40, .inl L13a0)), (m20, .inl (k 0, 120, .inl L13a1)), (m21, .inl (k 0, 20, .inl L13a2)), (m22, .inl (k 0, 600, .inl f22))]) [8, 7, 4, 5, 6, 0, 1, 2, 3] rfl
        have hD9 := hD.sub (ws' := [(mo, .inr (12, [.int 0, .ref m1, .ref m2, .ref m3, .ref m4, .ref m5, .int o_72, .int L13f7x7, .int L13f7x8, .int L13f7x9, .int L13f7x10, .long L13f7x11, .int L13f7x12, .int L13f7x13, .int o_73, .int o_74, .ref m16, .ref m17, .ref m18, .ref m19, .ref m20, .ref m21, .ref m22, .ref m23, .int v24, .ref m25, .ref m26, .ref m27, .ref m28, .ref m29, .int v30, .ref m31, .ref m32, .ref m33, .int v34, .int v35, .int v36, .ref m37, .ref m38, .ref m39, .ref m40, .long v41])), (m5, .inl (k 1, 1000, .inl f5)), (m16, .inl (k 0, 5, .inl L13a4)), (m17, .inl (k 0, 30, .inl L13a5)), (m18, .inl (k 0, 250, .inl L13a6)), (m19, .inl (k 0, 40, .inl L13a0)), (m20, .inl (k 0, 120, .inl L13a1)), (m21, .inl (k 0, 20, .inl L13a2)), (m22, .inl (k 0, 600, .inl f22))]) [8, 7, 4, 5, 6, 0, 1, 2, 3] (by decide) rfl
        exact W.iret (v := (-4)) hx hb hr (fun tZ ht hW => ⟨⟨(-4), (0, o_72, L13f7x7, L13f7x8, L13f7x9, L13f7x10, L13f7x11, L13f7x12, L13f7x13, o_73, o_74, L13a4, L13a5, L13a6, L13a0, L13a1, L13a2, f22), rfl, ⟨(show 0 ≤ 0 ∧ 0 ≤ 0 from by omega), (show 0 ≤ o_72.toInt ∧ o_72.toInt ≤ 0 from by omega), (show 0 ≤ L13f7x7.toInt ∧ L13f7x7.toInt ≤ 1000 from by omega), L13a5h0, L13a5h1, L13a5h2, L13a5h3, L13a5h4, L13a5h5, L13a6h0, L13a6h1, L13a6h2, L13a6h3, L13a0h0, L13a0h1, L13a1h0, L13a2h0, L13a2h1, hp_f22_0, hp_f22_1, hp_f22_2, hi13x2⟩, by rw [ht]; exact hP9, va_K.moved hW.alike hK, hD9⟩, hS.F ht⟩) hS.2.2 dX12_town_102
    · skip
      have zh_70 : ¬ L13f7x8.toInt = 0 := z_ne h_70
      refine lv_aload_n hx hb dX12_town_27 rfl (lv_at hl 0 rfl) ?_
      refine va_get (D := D) (ci := 12) (v := .ref m16) (C := RX12) (T := TX12) (N := 42) hx hb hts iT_X12 hown hK hP 8 rfl rfl 16 (by decide) (hts _ tw_6_69) (fun _ h9 => h9) rfl dX12_town_28 ?_
      refine lv_iconst (v := 4) hx hb dX12_town_31 (by decide) ?_
      refine va_iald hx hb hK hP 4 0 rfl rfl (z_in (by decide) (by decide)) dX12_town_32 ?_
      refine lv_topi (fun x_107 ex_107 => ?_)
      refine lv_if_ne (tgt := 61) hx hb dX12_town_33 (by decide) (fun h_108 => ?_) (fun h_108 => ?_)
      · skip
        have zh_108 : ¬ x_107.toInt = 0 := z_ne h_108
        refine lv_aload_n hx hb dX12_town_61 rfl (lv_at hl 0 rfl) ?_
        have hPc := hP.sub (ws' := [(mo, .inr (12, [.int 0, .ref m1, .ref m2, .ref m3, .ref m4, .ref m5, .int v6, .int L13f7x7, .int L13f7x8, .int L13f7x9, .int L13f7x10, .long L13f7x11, .int L13f7x12, .int L13f7x13, .int v14, .int v15, .ref m16, .ref m17, .ref m18, .ref m19, .ref m20, .ref m21, .ref m22, .ref m23, .int v24, .ref m25, .ref m26, .ref m27, .ref m28, .ref m29, .int v30, .ref m31, .ref m32, .ref m33, .int v34, .int v35, .int v36, .ref m37, .ref m38, .ref m39, .ref m40, .long v41])), (m5, .inl (k 1, 1000, .inl f5)), (m17, .inl (k 0, 30, .inl L13a5)), (m18, .inl (k 0, 250, .inl L13a6)), (m19, .inl (k 0, 40, .inl L13a0)), (m20, .inl (k 0, 120, .inl L13a1)), (m21, .inl (k 0, 20, .inl L13a2))]) [8, 7, 5, 6, 0, 1, 2] rfl
        have hDc := hD.sub (ws' := [(mo, .inr (12, [.int 0, .ref m1, .ref m2, .ref m3, .ref m4, .ref m5, .int v6, .int L13f7x7, .int L13f7x8, .int L13f7x9, .int L13f7x10, .long L13f7x11, .int L13f7x12, .int L13f7x13, .int v14, .int v15, .ref m16, .ref m17, .ref m18, .ref m19, .ref m20, .ref m21, .ref m22, .ref m23, .int v24, .ref m25, .ref m26, .ref m27, .ref m28, .ref m29, .int v30, .ref m31, .ref m32, .ref m33, .int v34, .int v35, .int v36, .ref m37, .ref m38, .ref m39, .ref m40, .long v41])), (m5, .inl (k 1, 1000, .inl f5)), (m17, .inl (k 0, 30, .inl L13a5)), (m18, .inl (k 0, 250, .inl L13a6)), (m19, .inl (k 0, 40, .inl L13a0)), (m20, .inl (k 0, 120, .inl L13a1)), (m21, .inl (k 0, 20, .inl L13a2))]) [8, 7, 5, 6, 0, 1, 2] (by decide) rfl
        have hFc := va_free (wc := [(mo, .inr (12, [.int 0, .ref m1, .ref m2, .ref m3, .ref m4, .ref m5, .int v6, .int L13f7x7, .int L13f7x8, .int L13f7x9, .int L13f7x10, .long L13f7x11, .int L13f7x12, .int L13f7x13, .int v14, .int v15, .ref m16, .ref m17, .ref m18, .ref m19, .ref m20, .ref m21, .ref m22, .ref m23, .int v24, .ref m25, .ref m26, .ref m27, .ref m28, .ref m29, .int v30, .ref m31, .ref m32, .ref m33, .int v34, .int v35, .int v36, .ref m37, .ref m38, .ref m39, .ref m40, .long v41])), (m5, .inl (k 1, 1000, .inl f5)), (m17, .inl (k 0, 30, .inl L13a5)), (m18, .inl (k 0, 250, .inl L13a6)), (m19, .inl (k 0, 40, .inl L13a0)), (m20, .inl (k 0, 120, .inl L13a1)), (m21, .inl (k 0, 20, .inl L13a2))]) hD hS hA [8, 7, 5, 6, 0, 1, 2] rfl
        refine va_callv (va_runV (C := RX12) (As := []) (rest := []) ⟨hx, hb, hml, hown, hts⟩ (c_X12_line l D k mo 0 m1 m2 m3 m4 m5 v6 L13f7x7 L13f7x8 L13f7x9 L13f7x10 L13f7x11 L13f7x12 L13f7x13 v14 v15 m16 m17 m18 m19 m20 m21 m22 m23 v24 m25 m26 m27 m28 m29 v30 m31 m32 m33 v34 v35 v36 m37 m38 m39 m40 v41 f5 L13a5 L13a6 L13a0 L13a1 L13a2 H.size (show 0 ≤ v6.toInt ∧ v6.toInt ≤ 1000 from by omega) (show 0 ≤ L13f7x7.toInt ∧ L13f7x7.toInt ≤ 1000 from by omega) (show 0 ≤ v24.toInt ∧ v24.toInt ≤ 1023 from by omega) L13a5h0 L13a5h1 L13a5h2 L13a5h3 L13a5h4 L13a5h5 L13a6h0 L13a6h1 L13a6h2 L13a6h3 L13a0h0 L13a0h1 L13a1h0 L13a2h0 L13a2h1 (show L13f7x7.toInt ≤ v6.toInt from by omega) hi13x2) (cwV 0 hts (gV tw_7_37 tw_7_39 tw_p_48 tw_1_13 tw_7_40) rfl rfl rfl hdV_X12_line ⟨Nat.le_of_ble_eq_true rfl, Nat.le_of_ble_eq_true rfl⟩) (cz_V hK hPc hDc hN (ci := 12) (q0 := 0) rfl rfl []) rfl rfl hl.1 rfl (lv_room (Nat.le_of_ble_eq_true rfl)) dX12_town_62 ⟨Nat.le_of_ble_eq_true rfl, Nat.le_of_ble_eq_true rfl⟩) hS (fun q _ h => hFc q h) hFc (fun uZ tZ H1 locs ht hvm hw hB hz1 hk1 hS => ?_)
        obtain ⟨o_110, o_111, o_112, o_113, o_114, o_115, o_116, o_117, o_118, o_119, o_120, o_121⟩ := uZ
        obtain ⟨hP1, hK1, hD1⟩ := hB
        rw [ht] at hP1
        obtain ⟨hP, hD⟩ := va_join (wr := [(m22, .inl (k 0, 600, .inl f22)), (m16, .inl (k 0, 5, .inl L13a4))]) (w1 := [(mo, .inr (12, [.int 0, .ref m1, .ref m2, .ref m3, .ref m4, .ref m5, .int v6, .int o_110, .int o_111, .int o_112, .int o_113, .long o_114, .int o_115, .int o_116, .int v14, .int v15, .ref m16, .ref m17, .ref m18, .ref m19, .ref m20, .ref m21, .ref m22, .ref m23, .int v24, .ref m25, .ref m26, .ref m27, .ref m28, .ref m29, .int v30, .ref m31, .ref m32, .ref m33, .int v34, .int v35, .int v36, .ref m37, .ref m38, .ref m39, .ref m40, .long v41])), (m5, .inl (k 1, 1000, .inl f5)), (m17, .inl (k 0, 30, .inl o_117)), (m18, .inl (k 0, 250, .inl o_121)), (m19, .inl (k 0, 40, .inl o_120)), (m20, .inl (k 0, 120, .inl o_119)), (m21, .inl (k 0, 20, .inl o_118))]) hP hD [8, 7, 5, 6, 0, 1, 2] [3, 4] rfl rfl (by decide) (by decide) hk1 hFc hP1 hD1
        clear hK1 hP1 hD1 hPc hDc hFc
        clear hk1 hz1 ht hvm
        have hP : va_P D vwCl [(m22, .inl (k 0, 600, .inl f22)), (m16, .inl (k 0, 5, .inl L13a4)), (mo, .inr (12, [.int 0, .ref m1, .ref m2, .ref m3, .ref m4, .ref m5, .int v6, .int o_110, .int o_111, .int o_112, .int o_113, .long o_114, .int o_115, .int o_116, .int v14, .int v15, .ref m16, .ref m17, .ref m18, .ref m19, .ref m20, .ref m21, .ref m22, .ref m23, .int v24, .ref m25, .ref m26, .ref m27, .ref m28, .ref m29, .int v30, .ref m31, .ref m32, .ref m33, .int v34, .int v35, .int v36, .ref m37, .ref m38, .ref m39, .ref m40, .long v41])), (m5, .inl (k 1, 1000, .inl f5)), (m17, .inl (k 0, 30, .inl o_117)), (m18, .inl (k 0, 250, .inl o_121)), (m19, .inl (k 0, 40, .inl o_120)), (m20, .inl (k 0, 120, .inl o_119)), (m21, .inl (k 0, 20, .inl o_118))] H1 := hP
        have hD : va_D A [(m22, .inl (k 0, 600, .inl f22)), (m16, .inl (k 0, 5, .inl L13a4)), (mo, .inr (12, [.int 0, .ref m1, .ref m2, .ref m3, .ref m4, .ref m5, .int v6, .int o_110, .int o_111, .int o_112, .int o_113, .long o_114, .int o_115, .int o_116, .int v14, .int v15, .ref m16, .ref m17, .ref m18, .ref m19, .ref m20, .ref m21, .ref m22, .ref m23, .int v24, .ref m25, .ref m26, .ref m27, .ref m28, .ref m29, .int v30, .ref m31, .ref m32, .ref m33, .int v34, .int v35, .int v36, .ref m37, .ref m38, .ref m39, .ref m40, .long v41])), (m5, .inl (k 1, 1000, .inl f5)), (m17, .inl (k 0, 30, .inl o_117)), (m18, .inl (k 0, 250, .inl o_121)), (m19, .inl (k 0, 40, .inl o_120)), (m20, .inl (k 0, 120, .inl o_119)), (m21, .inl (k 0, 20, .inl o_118))] := hD
        generalize H1 = H at hP hS ⊢
        have hw_122 : (0 ≤ o_110.toInt ∧ o_110.toInt ≤ 1000) ∧ (PR 30 6 0 0 8 o_117) ∧ (PR 30 6 1 0 10 o_117) ∧ (PR 30 6 2 0 4 o_117) ∧ (PR 30 6 3 0 6 o_117) ∧ (PR 30 6 4 0 2 o_117) ∧ (PR 30 6 5 0 40 o_117) ∧ (PR 20 2 0 0 7 o_118) ∧ (PR 20 2 1 0 999 o_118) ∧ (PR 120 4 0 0 7 o_119) ∧ (PR 40 2 0 0 7 o_120) ∧ (PR 40 2 1 0 99 o_120) ∧ (PR 250 5 0 0 7 o_121) ∧ (PR 250 5 1 0 7 o_121) ∧ (PR 250 5 2 0 60 o_121) ∧ (PR 250 5 3 0 10 o_121) ∧ (L13f7x7.toInt ≤ o_110.toInt ∧ o_110.toInt ≤ v6.toInt) ∧ (TK o_117 o_121) := hw
        obtain ⟨hw_123, hw_124, hw_125, hw_126, hw_127, hw_128, hw_129, hw_130, hw_131, hw_132, hw_133, hw_134, hw_135, hw_136, hw_137, hw_138, hw_139, hw_140⟩ := hw_122
        clear hw
        refine lv_aload_n hx hb dX12_town_65 rfl (lv_at hl 0 rfl) ?_
        have hPc := hP.sub (ws' := [(mo, .inr (12, [.int 0, .ref m1, .ref m2, .ref m3, .ref m4, .ref m5, .int v6, .int o_110, .int o_111, .int o_112, .int o_113, .long o_114, .int o_115, .int o_116, .int v14, .int v15, .ref m16, .ref m17, .ref m18, .ref m19, .ref m20, .ref m21, .ref m22, .ref m23, .int v24, .ref m25, .ref m26, .ref m27, .ref m28, .ref m29, .int v30, .ref m31, .ref m32, .ref m33, .int v34, .int v35, .int v36, .ref m37, .ref m38, .ref m39, .ref m40, .long v41]))]) [2] rfl
        have hDc := hD.sub (ws' := [(mo, .inr (12, [.int 0, .ref m1, .ref m2, .ref m3, .ref m4, .ref m5, .int v6, .int o_110, .int o_111, .int o_112, .int o_113, .long o_114, .int o_115, .int o_116, .int v14, .int v15, .ref m16, .ref m17, .ref m18, .ref m19, .ref m20, .ref m21, .ref m22, .ref m23, .int v24, .ref m25, .ref m26, .ref m27, .ref m28, .ref m29, .int v30, .ref m31, .ref m32, .ref m33, .int v34, .int v35, .int v36, .ref m37, .ref m38, .ref m39, .ref m40, .long v41]))]) [2] (by decide) rfl
        have hFc := va_free (wc := [(mo, .inr (12, [.int 0, .ref m1, .ref m2, .ref m3, .ref m4, .ref m5, .int v6, .int o_110, .int o_111, .int o_112, .int o_113, .long o_114, .int o_115, .int o_116, .int v14, .int v15, .ref m16, .ref m17, .ref m18, .ref m19, .ref m20, .ref m21, .ref m22, .ref m23, .int v24, .ref m25, .ref m26, .ref m27, .ref m28, .ref m29, .int v30, .ref m31, .ref m32, .ref m33, .int v34, .int v35, .int v36, .ref m37, .ref m38, .ref m39, .ref m40, .long v41]))]) hD hS hA [2] rfl
        refine va_calli (va_runV (C := RX12) (As := []) (rest := []) ⟨hx, hb, hml, hown, hts⟩ (c_X12_isGood l D k mo 0 m1 m2 m3 m4 m5 v6 o_110 o_111 o_112 o_113 o_114 o_115 o_116 v14 v15 m16 m17 m18 m19 m20 m21 m22 m23 v24 m25 m26 m27 m28 m29 v30 m31 m32 m33 v34 v35 v36 m37 m38 m39 m40 v41 H.size (show 0 ≤ v6.toInt ∧ v6.toInt ≤ 1000 from by omega) (show 0 ≤ v24.toInt ∧ v24.toInt ≤ 1023 from by omega)) (cwV 0 hts (gV tw_7_7 tw_7_9 tw_p_41 tw_1_13 tw_7_10) rfl rfl rfl hdV_X12_isGood ⟨Nat.le_of_ble_eq_true rfl, Nat.le_of_ble_eq_true rfl⟩) (cz_V hK hPc hDc hN (ci := 12) (q0 := 0) rfl rfl []) rfl rfl hl.1 rfl (lv_room (Nat.le_of_ble_eq_true rfl)) dX12_town_66 ⟨Nat.le_of_ble_eq_true rfl, Nat.le_of_ble_eq_true rfl⟩) hS (fun q _ h => hFc q h) hFc (fun r_141 uZ tZ H1 locs ht hvm hw hB hz1 hk1 hS => ?_)
        obtain ⟨hP1, hK1, hD1⟩ := hB
        rw [ht] at hP1
        obtain ⟨hP, hD⟩ := va_join (wr := [(m22, .inl (k 0, 600, .inl f22)), (m16, .inl (k 0, 5, .inl L13a4)), (m5, .inl (k 1, 1000, .inl f5)), (m17, .inl (k 0, 30, .inl o_117)), (m18, .inl (k 0, 250, .inl o_121)), (m19, .inl (k 0, 40, .inl o_120)), (m20, .inl (k 0, 120, .inl o_119)), (m21, .inl (k 0, 20, .inl o_118))]) (w1 := [(mo, .inr (12, [.int 0, .ref m1, .ref m2, .ref m3, .ref m4, .ref m5, .int v6, .int o_110, .int o_111, .int o_112, .int o_113, .long o_114, .int o_115, .int o_116, .int v14, .int v15, .ref m16, .ref m17, .ref m18, .ref m19, .ref m20, .ref m21, .ref m22, .ref m23, .int v24, .ref m25, .ref m26, .ref m27, .ref m28, .ref m29, .int v30, .ref m31, .ref m32, .ref m33, .int v34, .int v35, .int v36, .ref m37, .ref m38, .ref m39, .ref m40, .long v41]))]) hP hD [2] [0, 1, 3, 4, 5, 6, 7, 8] rfl rfl (by decide) (by decide) hk1 hFc hP1 hD1
        clear hK1 hP1 hD1 hPc hDc hFc
        clear hk1 hz1 ht hvm
        have hP : va_P D vwCl [(m22, .inl (k 0, 600, .inl f22)), (m16, .inl (k 0, 5, .inl L13a4)), (m5, .inl (k 1, 1000, .inl f5)), (m17, .inl (k 0, 30, .inl o_117)), (m18, .inl (k 0, 250, .inl o_121)), (m19, .inl (k 0, 40, .inl o_120)), (m20, .inl (k 0, 120, .inl o_119)), (m21, .inl (k 0, 20, .inl o_118)), (mo, .inr (12, [.int 0, .ref m1, .ref m2, .ref m3, .ref m4, .ref m5, .int v6, .int o_110, .int o_111, .int o_112, .int o_113, .long o_114, .int o_115, .int o_116, .int v14, .int v15, .ref m16, .ref m17, .ref m18, .ref m19, .ref m20, .ref m21, .ref m22, .ref m23, .int v24, .ref m25, .ref m26, .ref m27, .ref m28, .ref m29, .int v30, .ref m31, .ref m32, .ref m33, .int v34, .int v35, .int v36, .ref m37, .ref m38, .ref m39, .ref m40, .long v41]))] H1 := hP
        have hD : va_D A [(m22, .inl (k 0, 600, .inl f22)), (m16, .inl (k 0, 5, .inl L13a4)), (m5, .inl (k 1, 1000, .inl f5)), (m17, .inl (k 0, 30, .inl o_117)), (m18, .inl (k 0, 250, .inl o_121)), (m19, .inl (k 0, 40, .inl o_120)), (m20, .inl (k 0, 120, .inl o_119)), (m21, .inl (k 0, 20, .inl o_118)), (mo, .inr (12, [.int 0, .ref m1, .ref m2, .ref m3, .ref m4, .ref m5, .int v6, .int o_110, .int o_111, .int o_112, .int o_113, .long o_114, .int o_115, .int o_116, .int v14, .int v15, .ref m16, .ref m17, .ref m18, .ref m19, .ref m20, .ref m21, .ref m22, .ref m23, .int v24, .ref m25, .ref m26, .ref m27, .ref m28, .ref m29, .int v30, .ref m31, .ref m32, .ref m33, .int v34, .int v35, .int v36, .ref m37, .ref m38, .ref m39, .ref m40, .long v41]))] := hD
        generalize H1 = H at hP hS ⊢
        have hw_142 : (0 ≤ r_141.toInt ∧ r_141.toInt ≤ 1) ∧ ((r_141.toInt = 1 ∧ o_115.toInt = 0) ∨ (r_141.toInt = 0 ∧ ¬ o_115.toInt = 0)) := hw
        obtain ⟨hw_143, hw_144⟩ := hw_142
        clear hw
        refine lv_if_eq (tgt := 76) hx hb dX12_town_69 (by decide) (fun h_145 => ?_) (fun h_145 => ?_)
        · skip
          have zh_145 : r_141.toInt = 0 := z_eq h_145
          refine lv_aload_n hx hb dX12_town_76 rfl (lv_at hl 0 rfl) ?_
          refine va_get (D := D) (ci := 12) (v := .ref m16) (C := RX12) (T := TX12) (N := 42) hx hb hts iT_X12 hown hK hP 8 rfl rfl 16 (by decide) (hts _ tw_6_69) (fun _ h9 => h9) rfl dX12_town_77 ?_
          refine lv_iconst (v := 4) hx hb dX12_town_80 (by decide) ?_
          refine lv_dup2_11 hx hb dX12_town_81 rfl rfl ?_
          refine va_iald hx hb hK hP 1 0 rfl rfl (z_in (by decide) (by decide)) dX12_town_82 ?_
          refine lv_topi (fun x_146 ex_146 => ?_)
          obtain rfl : x_107 = x_146 := ex_107.trans ex_146.symm
          refine lv_iconst (v := 1) hx hb dX12_town_83 (by decide) ?_
          refine lv_iadd hx hb dX12_town_84 ?_
          refine lv_topi (fun x_147 ex_147 => ?_)
          have zrx_107 := z_rng x_107
          refine va_iast hx hb hK hP hD hS 1 0 rfl rfl (z_in (by decide) (by decide)) dX12_town_85 (fun H locs hP hD hS => ?_)
          obtain ⟨g_148, eg_148⟩ : ∃ z : Nat → Int32, upd L13a4 4 x_147 = z := ⟨_, rfl⟩
          have hP : va_P D vwCl [(m22, .inl (k 0, 600, .inl f22)), (m16, .inl (k 0, 5, .inl (upd L13a4 4 x_147))), (m5, .inl (k 1, 1000, .inl f5)), (m17, .inl (k 0, 30, .inl o_117)), (m18, .inl (k 0, 250, .inl o_121)), (m19, .inl (k 0, 40, .inl o_120)), (m20, .inl (k 0, 120, .inl o_119)), (m21, .inl (k 0, 20, .inl o_118)), (mo, .inr (12, [.int 0, .ref m1, .ref m2, .ref m3, .ref m4, .ref m5, .int v6, .int o_110, .int o_111, .int o_112, .int o_113, .long o_114, .int o_115, .int o_116, .int v14, .int v15, .ref m16, .ref m17, .ref m18, .ref m19, .ref m20, .ref m21, .ref m22, .ref m23, .int v24, .ref m25, .ref m26, .ref m27, .ref m28, .ref m29, .int v30, .ref m31, .ref m32, .ref m33, .int v34, .int v35, .int v36, .ref m37, .ref m38, .ref m39, .ref m40, .long v41]))] H := hP
          have hD : va_D A [(m22, .inl (k 0, 600, .inl f22)), (m16, .inl (k 0, 5, .inl (upd L13a4 4 x_147))), (m5, .inl (k 1, 1000, .inl f5)), (m17, .inl (k 0, 30, .inl o_117)), (m18, .inl (k 0, 250, .inl o_121)), (m19, .inl (k 0, 40, .inl o_120)), (m20, .inl (k 0, 120, .inl o_119)), (m21, .inl (k 0, 20, .inl o_118)), (mo, .inr (12, [.int 0, .ref m1, .ref m2, .ref m3, .ref m4, .ref m5, .int v6, .int o_110, .int o_111, .int o_112, .int o_113, .long o_114, .int o_115, .int o_116, .int v14, .int v15, .ref m16, .ref m17, .ref m18, .ref m19, .ref m20, .ref m21, .ref m22, .ref m23, .int v24, .ref m25, .ref m26, .ref m27, .ref m28, .ref m29, .int v30, .ref m31, .ref m32, .ref m33, .int v34, .int v35, .int v36, .ref m37, .ref m38, .ref m39, .ref m40, .long v41]))] := hD
          rw [eg_148] at hP hD
          refine lv_goto (tgt := 13) hx hb dX12_town_86 (by decide) ?_
          exact ih_27 _ _ _ _ (by rw [en_28]; exact mz_lt (by omega) (by omega) (by omega) (by omega) (by omega) (by omega)) ⟨o_120, o_119, o_118, g_148, o_117, o_121, o_110, o_111, o_112, o_113, o_114, o_115, o_116, rfl, hw_133, hw_134, hw_132, hw_130, hw_131, hw_124, hw_125, hw_126, hw_127, hw_128, hw_129, hw_135, hw_136, hw_137, hw_138, (show 0 ≤ o_110.toInt ∧ o_110.toInt ≤ 1000 from by omega), (show o_110.toInt ≤ v6.toInt from by omega), (show 0 ≤ o_110.toInt from by omega), hw_140, hP.sub (ws' := [(m19, .inl (k 0, 40, .inl o_120)), (m20, .inl (k 0, 120, .inl o_119)), (m21, .inl (k 0, 20, .inl o_118)), (m22, .inl (k 0, 600, .inl f22)), (m16, .inl (k 0, 5, .inl g_148)), (m17, .inl (k 0, 30, .inl o_117)), (m18, .inl (k 0, 250, .inl o_121)), (mo, .inr (12, [.int 0, .ref m1, .ref m2, .ref m3, .ref m4, .ref m5, .int v6, .int o_110, .int o_111, .int o_112, .int o_113, .long o_114, .int o_115, .int o_116, .int v14, .int v15, .ref m16, .ref m17, .ref m18, .ref m19, .ref m20, .ref m21, .ref m22, .ref m23, .int v24, .ref m25, .ref m26, .ref m27, .ref m28, .ref m29, .int v30, .ref m31, .ref m32, .ref m33, .int v34, .int v35, .int v36, .ref m37, .ref m38, .ref m39, .ref m40, .long v41])), (m5, .inl (k 1, 1000, .inl f5))]) [5, 6, 7, 0, 1, 3, 4, 8, 2] rfl, hD.sub (ws' := [(m19, .inl (k 0, 40, .inl o_120)), (m20, .inl (k 0, 120, .inl o_119)), (m21, .inl (k 0, 20, .inl o_118)), (m22, .inl (k 0, 600, .inl f22)), (m16, .inl (k 0, 5, .inl g_148)), (m17, .inl (k 0, 30, .inl o_117)), (m18, .inl (k 0, 250, .inl o_121)), (mo, .inr (12, [.int 0, .ref m1, .ref m2, .ref m3, .ref m4, .ref m5, .int v6, .int o_110, .int o_111, .int o_112, .int o_113, .long o_114, .int o_115, .int o_116, .int v14, .int v15, .ref m16, .ref m17, .ref m18, .ref m19, .ref m20, .ref m21, .ref m22, .ref m23, .int v24, .ref m25, .ref m26, .ref m27, .ref m28, .ref m29, .int v30, .ref m31, .ref m32, .ref m33, .int v34, .int v35, .int v36, .ref m37, .ref m38, .ref m39, .ref m40, .long v41])), (m5, .inl (k 1, 1000, .inl f5))]) [5, 6, 7, 0, 1, 3, 4, 8, 2] (by decide) rfl, hS, lv_sub hl [0] rfl⟩
        · skip
          have zh_145 : ¬ r_141.toInt = 0 := z_ne h_145
          refine lv_aload_n hx hb dX12_town_72 rfl (lv_at hl 0 rfl) ?_
          have hPc := hP.sub (ws' := [(mo, .inr (12, [.int 0, .ref m1, .ref m2, .ref m3, .ref m4, .ref m5, .int v6, .int o_110, .int o_111, .int o_112, .int o_113, .long o_114, .int o_115, .int o_116, .int v14, .int v15, .ref m16, .ref m17, .ref m18, .ref m19, .ref m20, .ref m21, .ref m22, .ref m23, .int v24, .ref m25, .ref m26, .ref m27, .ref m28, .ref m29, .int v30, .ref m31, .ref m32, .ref m33, .int v34, .int v35, .int v36, .ref m37, .ref m38, .ref m39, .ref m40, .long v41])), (m5, .inl (k 1, 1000, .inl f5))]) [8, 2] rfl
          have hDc := hD.sub (ws' := [(mo, .inr (12, [.int 0, .ref m1, .ref m2, .ref m3, .ref m4, .ref m5, .int v6, .int o_110, .int o_111, .int o_112, .int o_113, .long o_114, .int o_115, .int o_116, .int v14, .int v15, .ref m16, .ref m17, .ref m18, .ref m19, .ref m20, .ref m21, .ref m22, .ref m23, .int v24, .ref m25, .ref m26, .ref m27, .ref m28, .ref m29, .int v30, .ref m31, .ref m32, .ref m33, .int v34, .int v35, .int v36, .ref m37, .ref m38, .ref m39, .ref m40, .long v41])), (m5, .inl (k 1, 1000, .inl f5))]) [8, 2] (by decide) rfl
          have hFc := va_free (wc := [(mo, .inr (12, [.int 0, .ref m1, .ref m2, .ref m3, .ref m4, .ref m5, .int v6, .int o_110, .int o_111, .int o_112, .int o_113, .long o_114, .int o_115, .int o_116, .int v14, .int v15, .ref m16, .ref m17, .ref m18, .ref m19, .ref m20, .ref m21, .ref m22, .ref m23, .int v24, .ref m25, .ref m26, .ref m27, .ref m28, .ref m29, .int v30, .ref m31, .ref m32, .ref m33, .int v34, .int v35, .int v36, .ref m37, .ref m38, .ref m39, .ref m40, .long v41])), (m5, .inl (k 1, 1000, .inl f5))]) hD hS hA [8, 2] rfl
          refine va_callv (va_runV (C := RX12) (As := []) (rest := []) ⟨hx, hb, hml, hown, hts⟩ (c_X12_ends l D k mo 0 m1 m2 m3 m4 m5 v6 o_110 o_111 o_112 o_113 o_114 o_115 o_116 v14 v15 m16 m17 m18 m19 m20 m21 m22 m23 v24 m25 m26 m27 m28 m29 v30 m31 m32 m33 v34 v35 v36 m37 m38 m39 m40 v41 f5 H.size (show 0 ≤ v6.toInt ∧ v6.toInt ≤ 1000 from by omega) (show 0 ≤ o_110.toInt ∧ o_110.toInt ≤ 1000 from by omega) (show 0 ≤ v24.toInt ∧ v24.toInt ≤ 1023 from by omega) (show o_110.toInt ≤ v6.toInt from by omega)) (cwV 0 hts (gV tw_7_79 tw_7_81 tw_p_55 tw_1_13 tw_7_82) rfl rfl rfl hdV_X12_ends ⟨Nat.le_of_ble_eq_true rfl, Nat.le_of_ble_eq_true rfl⟩) (cz_V hK hPc hDc hN (ci := 12) (q0 := 0) rfl rfl []) rfl rfl hl.1 rfl (lv_room (Nat.le_of_ble_eq_true rfl)) dX12_town_73 ⟨Nat.le_of_ble_eq_true rfl, Nat.le_of_ble_eq_true rfl⟩) hS (fun q _ h => hFc q h) hFc (fun uZ tZ H1 locs ht hvm hw hB hz1 hk1 hS => ?_)
          obtain ⟨o_150, o_151, o_152, o_153, o_154, o_155, o_156⟩ := uZ
          obtain ⟨hP1, hK1, hD1⟩ := hB
          rw [ht] at hP1
          obtain ⟨hP, hD⟩ := va_join (wr := [(m22, .inl (k 0, 600, .inl f22)), (m16, .inl (k 0, 5, .inl L13a4)), (m17, .inl (k 0, 30, .inl o_117)), (m18, .inl (k 0, 250, .inl o_121)), (m19, .inl (k 0, 40, .inl o_120)), (m20, .inl (k 0, 120, .inl o_119)), (m21, .inl (k 0, 20, .inl o_118))]) (w1 := [(mo, .inr (12, [.int 0, .ref m1, .ref m2, .ref m3, .ref m4, .ref m5, .int v6, .int o_150, .int o_151, .int o_152, .int o_153, .long o_154, .int o_155, .int o_156, .int v14, .int v15, .ref m16, .ref m17, .ref m18, .ref m19, .ref m20, .ref m21, .ref m22, .ref m23, .int v24, .ref m25, .ref m26, .ref m27, .ref m28, .ref m29, .int v30, .ref m31, .ref m32, .ref m33, .int v34, .int v35, .int v36, .ref m37, .ref m38, .ref m39, .ref m40, .long v41])), (m5, .inl (k 1, 1000, .inl f5))]) hP hD [8, 2] [0, 1, 3, 4, 5, 6, 7] rfl rfl (by decide) (by decide) hk1 hFc hP1 hD1
          clear hK1 hP1 hD1 hPc hDc hFc
          clear hk1 hz1 ht hvm
          have hP : va_P D vwCl [(m22, .inl (k 0, 600, .inl f22)), (m16, .inl (k 0, 5, .inl L13a4)), (m17, .inl (k 0, 30, .inl o_117)), (m18, .inl (k 0, 250, .inl o_121)), (m19, .inl (k 0, 40, .inl o_120)), (m20, .inl (k 0, 120, .inl o_119)), (m21, .inl (k 0, 20, .inl o_118)), (mo, .inr (12, [.int 0, .ref m1, .ref m2, .ref m3, .ref m4, .ref m5, .int v6, .int o_150, .int o_151, .int o_152, .int o_153, .long o_154, .int o_155, .int o_156, .int v14, .int v15, .ref m16, .ref m17, .ref m18, .ref m19, .ref m20, .ref m21, .ref m22, .ref m23, .int v24, .ref m25, .ref m26, .ref m27, .ref m28, .ref m29, .int v30, .ref m31, .ref m32, .ref m33, .int v34, .int v35, .int v36, .ref m37, .ref m38, .ref m39, .ref m40, .long v41])), (m5, .inl (k 1, 1000, .inl f5))] H1 := hP
          have hD : va_D A [(m22, .inl (k 0, 600, .inl f22)), (m16, .inl (k 0, 5, .inl L13a4)), (m17, .inl (k 0, 30, .inl o_117)), (m18, .inl (k 0, 250, .inl o_121)), (m19, .inl (k 0, 40, .inl o_120)), (m20, .inl (k 0, 120, .inl o_119)), (m21, .inl (k 0, 20, .inl o_118)), (mo, .inr (12, [.int 0, .ref m1, .ref m2, .ref m3, .ref m4, .ref m5, .int v6, .int o_150, .int o_151, .int o_152, .int o_153, .long o_154, .int o_155, .int o_156, .int v14, .int v15, .ref m16, .ref m17, .ref m18, .ref m19, .ref m20, .ref m21, .ref m22, .ref m23, .int v24, .ref m25, .ref m26, .ref m27, .ref m28, .ref m29, .int v30, .ref m31, .ref m32, .ref m33, .int v34, .int v35, .int v36, .ref m37, .ref m38, .ref m39, .ref m40, .long v41])), (m5, .inl (k 1, 1000, .inl f5))] := hD
          generalize H1 = H at hP hS ⊢
          have hw_157 : (0 ≤ o_150.toInt ∧ o_150.toInt ≤ 1000) ∧ (o_110.toInt ≤ o_150.toInt ∧ o_150.toInt ≤ v6.toInt) ∧ (¬ o_155.toInt = 0 ∨ o_151.toInt = 0 ∨ o_110.toInt < o_150.toInt) := hw
          obtain ⟨hw_158, hw_159, hw_160⟩ := hw_157
          clear hw
          refine lv_aload_n hx hb dX12_town_76 rfl (lv_at hl 0 rfl) ?_
          refine va_get (D := D) (ci := 12) (v := .ref m16) (C := RX12) (T := TX12) (N := 42) hx hb hts iT_X12 hown hK hP 7 rfl rfl 16 (by decide) (hts _ tw_6_69) (fun _ h9 => h9) rfl dX12_town_77 ?_
          refine lv_iconst (v := 4) hx hb dX12_town_80 (by decide) ?_
          refine lv_dup2_11 hx hb dX12_town_81 rfl rfl ?_
          refine va_iald hx hb hK hP 1 0 rfl rfl (z_in (by decide) (by decide)) dX12_town_82 ?_
          refine lv_topi (fun x_161 ex_161 => ?_)
          obtain rfl : x_107 = x_161 := ex_107.trans ex_161.symm
          refine lv_iconst (v := 1) hx hb dX12_town_83 (by decide) ?_
          refine lv_iadd hx hb dX12_town_84 ?_
          refine lv_topi (fun x_162 ex_162 => ?_)
          have zrx_107 := z_rng x_107
          refine va_iast hx hb hK hP hD hS 1 0 rfl rfl (z_in (by decide) (by decide)) dX12_town_85 (fun H locs hP hD hS => ?_)
          obtain ⟨g_163, eg_163⟩ : ∃ z : Nat → Int32, upd L13a4 4 x_162 = z := ⟨_, rfl⟩
          have hP : va_P D vwCl [(m22, .inl (k 0, 600, .inl f22)), (m16, .inl (k 0, 5, .inl (upd L13a4 4 x_162))), (m17, .inl (k 0, 30, .inl o_117)), (m18, .inl (k 0, 250, .inl o_121)), (m19, .inl (k 0, 40, .inl o_120)), (m20, .inl (k 0, 120, .inl o_119)), (m21, .inl (k 0, 20, .inl o_118)), (mo, .inr (12, [.int 0, .ref m1, .ref m2, .ref m3, .ref m4, .ref m5, .int v6, .int o_150, .int o_151, .int o_152, .int o_153, .long o_154, .int o_155, .int o_156, .int v14, .int v15, .ref m16, .ref m17, .ref m18, .ref m19, .ref m20, .ref m21, .ref m22, .ref m23, .int v24, .ref m25, .ref m26, .ref m27, .ref m28, .ref m29, .int v30, .ref m31, .ref m32, .ref m33, .int v34, .int v35, .int v36, .ref m37, .ref m38, .ref m39, .ref m40, .long v41])), (m5, .inl (k 1, 1000, .inl f5))] H := hP
          have hD : va_D A [(m22, .inl (k 0, 600, .inl f22)), (m16, .inl (k 0, 5, .inl (upd L13a4 4 x_162))), (m17, .inl (k 0, 30, .inl o_117)), (m18, .inl (k 0, 250, .inl o_121)), (m19, .inl (k 0, 40, .inl o_120)), (m20, .inl (k 0, 120, .inl o_119)), (m21, .inl (k 0, 20, .inl o_118)), (mo, .inr (12, [.int 0, .ref m1, .ref m2, .ref m3, .ref m4, .ref m5, .int v6, .int o_150, .int o_151, .int o_152, .int o_153, .long o_154, .int o_155, .int o_156, .int v14, .int v15, .ref m16, .ref m17, .ref m18, .ref m19, .ref m20, .ref m21, .ref m22, .ref m23, .int v24, .ref m25, .ref m26, .ref m27, .ref m28, .ref m29, .int v30, .ref m31, .ref m32, .ref m33, .int v34, .int v35, .int v36, .ref m37, .ref m38, .ref m39, .ref m40, .long v41])), (m5, .inl (k 1, 1000, .inl f5))] := hD
          rw [eg_163] at hP hD
          refine lv_goto (tgt := 13) hx hb dX12_town_86 (by decide) ?_
          exact ih_27 _ _ _ _ (by rw [en_28]; exact mz_lt (by omega) (by omega) (by omega) (by omega) (by omega) (by omega)) ⟨o_120, o_119, o_118, g_163, o_117, o_121, o_150, o_151, o_152, o_153, o_154, o_155, o_156, rfl, hw_133, hw_134, hw_132, hw_130, hw_131, hw_124, hw_125, hw_126, hw_127, hw_128, hw_129, hw_135, hw_136, hw_137, hw_138, (show 0 ≤ o_150.toInt ∧ o_150.toInt ≤ 1000 from by omega), (show o_150.toInt ≤ v6.toInt from by omega), (show 0 ≤ o_150.toInt from by omega), hw_140, hP.sub (ws' := [(m19, .inl (k 0, 40, .inl o_120)), (m20, .inl (k 0, 120, .inl o_119)), (m21, .inl (k 0, 20, .inl o_118)), (m22, .inl (k 0, 600, .inl f22)), (m16, .inl (k 0, 5, .inl g_163)), (m17, .inl (k 0, 30, .inl o_117)), (m18, .inl (k 0, 250, .inl o_121)), (mo, .inr (12, [.int 0, .ref m1, .ref m2, .ref m3, .ref m4, .ref m5, .int v6, .int o_150, .int o_151, .int o_152, .int o_153, .long o_154, .int o_155, .int o_156, .int v14, .int v15, .ref m16, .ref m17, .ref m18, .ref m19, .ref m20, .ref m21, .ref m22, .ref m23, .int v24, .ref m25, .ref m26, .ref m27, .ref m28, .ref m29, .int v30, .ref m31, .ref m32, .ref m33, .int v34, .int v35, .int v36, .ref m37, .ref m38, .ref m39, .ref m40, .long v41])), (m5, .inl (k 1, 1000, .inl f5))]) [4, 5, 6, 0, 1, 2, 3, 7, 8] rfl, hD.sub (ws' := [(m19, .inl (k 0, 40, .inl o_120)), (m20, .inl (k 0, 120, .inl o_119)), (m21, .inl (k 0, 20, .inl o_118)), (m22, .inl (k 0, 600, .inl f22)), (m16, .inl (k 0, 5, .inl g_163)), (m17, .inl (k 0, 30, .inl o_117)), (m18, .inl (k 0, 250, .inl o_121)), (mo, .inr (12, [.int 0, .ref m1, .ref m2, .ref m3, .ref m4, .ref m5, .int v6, .int o_150, .int o_151, .int o_152, .int o_153, .long o_154, .int o_155, .int o_156, .int v14, .int v15, .ref m16, .ref m17, .ref m18, .ref m19, .ref m20, .ref m21, .ref m22, .ref m23, .int v24, .ref m25, .ref m26, .ref m27, .ref m28, .ref m29, .int v30, .ref m31, .ref m32, .ref m33, .int v34, .int v35, .int v36, .ref m37, .ref m38, .ref m39, .ref m40, .long v41])), (m5, .inl (k 1, 1000, .inl f5))]) [4, 5, 6, 0, 1, 2, 3, 7, 8] (by decide) rfl, hS, lv_sub hl [0] rfl⟩
      · skip
        have zh_108 : x_107.toInt = 0 := z_eq h_108
        refine lv_aload_n hx hb dX12_town_36 rfl (lv_at hl 0 rfl) ?_
        refine lv_ldc2 (v := 405230) hx hb hown (hts _ tw_7_11) dX12_town_37 ?_
        have hPc := hP.sub (ws' := [(mo, .inr (12, [.int 0, .ref m1, .ref m2, .ref m3, .ref m4, .ref m5, .int v6, .int L13f7x7, .int L13f7x8, .int L13f7x9, .int L13f7x10, .long L13f7x11, .int L13f7x12, .int L13f7x13, .int v14, .int v15, .ref m16, .ref m17, .ref m18, .ref m19, .ref m20, .ref m21, .ref m22, .ref m23, .int v24, .ref m25, .ref m26, .ref m27, .ref m28, .ref m29, .int v30, .ref m31, .ref m32, .ref m33, .int v34, .int v35, .int v36, .ref m37, .ref m38, .ref m39, .ref m40, .long v41])), (m5, .inl (k 1, 1000, .inl f5))]) [8, 7] rfl
        have hDc := hD.sub (ws' := [(mo, .inr (12, [.int 0, .ref m1, .ref m2, .ref m3, .ref m4, .ref m5, .int v6, .int L13f7x7, .int L13f7x8, .int L13f7x9, .int L13f7x10, .long L13f7x11, .int L13f7x12, .int L13f7x13, .int v14, .int v15, .ref m16, .ref m17, .ref m18, .ref m19, .ref m20, .ref m21, .ref m22, .ref m23, .int v24, .ref m25, .ref m26, .ref m27, .ref m28, .ref m29, .int v30, .ref m31, .ref m32, .ref m33, .int v34, .int v35, .int v36, .ref m37, .ref m38, .ref m39, .ref m40, .long v41])), (m5, .inl (k 1, 1000, .inl f5))]) [8, 7] (by decide) rfl
        have hFc := va_free (wc := [(mo, .inr (12, [.int 0, .ref m1, .ref m2, .ref m3, .ref m4, .ref m5, .int v6, .int L13f7x7, .int L13f7x8, .int L13f7x9, .int L13f7x10, .long L13f7x11, .int L13f7x12, .int L13f7x13, .int v14, .int v15, .ref m16, .ref m17, .ref m18, .ref m19, .ref m20, .ref m21, .ref m22, .ref m23, .int v24, .ref m25, .ref m26, .ref m27, .ref m28, .ref m29, .int v30, .ref m31, .ref m32, .ref m33, .int v34, .int v35, .int v36, .ref m37, .ref m38, .ref m39, .ref m40, .long v41])), (m5, .inl (k 1, 1000, .inl f5))]) hD hS hA [8, 7] rfl
        refine va_callv (va_runV (C := RX12) (As := [.long 405230]) (rest := []) ⟨hx, hb, hml, hown, hts⟩ (c_X12_asks l D k mo 405230 0 m1 m2 m3 m4 m5 v6 L13f7x7 L13f7x8 L13f7x9 L13f7x10 L13f7x11 L13f7x12 L13f7x13 v14 v15 m16 m17 m18 m19 m20 m21 m22 m23 v24 m25 m26 m27 m28 m29 v30 m31 m32 m33 v34 v35 v36 m37 m38 m39 m40 v41 f5 H.size (show 0 ≤ v6.toInt ∧ v6.toInt ≤ 1000 from by omega) (show 0 ≤ L13f7x7.toInt ∧ L13f7x7.toInt ≤ 1000 from by omega) (show 0 ≤ v24.toInt ∧ v24.toInt ≤ 1023 from by omega) (show L13f7x7.toInt ≤ v6.toInt from by omega)) (cwV 1 hts (gV tw_7_12 tw_7_14 tw_p_42 tw_1_13 tw_7_15) rfl rfl rfl hdV_X12_asks ⟨Nat.le_of_ble_eq_true rfl, Nat.le_of_ble_eq_true rfl⟩) (cz_V hK hPc hDc hN (ci := 12) (q0 := 0) rfl rfl [.long 405230]) rfl rfl hl.1 rfl (lv_room (Nat.le_of_ble_eq_true rfl)) dX12_town_40 ⟨Nat.le_of_ble_eq_true rfl, Nat.le_of_ble_eq_true rfl⟩) hS (fun q _ h => hFc q h) hFc (fun uZ tZ H1 locs ht hvm hw hB hz1 hk1 hS => ?_)
        obtain ⟨o_165, o_166, o_167, o_168, o_169, o_170, o_171⟩ := uZ
        obtain ⟨hP1, hK1, hD1⟩ := hB
        rw [ht] at hP1
        obtain ⟨hP, hD⟩ := va_join (wr := [(m19, .inl (k 0, 40, .inl L13a0)), (m20, .inl (k 0, 120, .inl L13a1)), (m21, .inl (k 0, 20, .inl L13a2)), (m22, .inl (k 0, 600, .inl f22)), (m16, .inl (k 0, 5, .inl L13a4)), (m17, .inl (k 0, 30, .inl L13a5)), (m18, .inl (k 0, 250, .inl L13a6))]) (w1 := [(mo, .inr (12, [.int 0, .ref m1, .ref m2, .ref m3, .ref m4, .ref m5, .int v6, .int o_165, .int o_166, .int o_167, .int o_168, .long o_169, .int o_170, .int o_171, .int v14, .int v15, .ref m16, .ref m17, .ref m18, .ref m19, .ref m20, .ref m21, .ref m22, .ref m23, .int v24, .ref m25, .ref m26, .ref m27, .ref m28, .ref m29, .int v30, .ref m31, .ref m32, .ref m33, .int v34, .int v35, .int v36, .ref m37, .ref m38, .ref m39, .ref m40, .long v41])), (m5, .inl (k 1, 1000, .inl f5))]) hP hD [8, 7] [0, 1, 2, 3, 4, 5, 6] rfl rfl (by decide) (by decide) hk1 hFc hP1 hD1
        clear hK1 hP1 hD1 hPc hDc hFc
        clear hk1 hz1 ht hvm
        have hP : va_P D vwCl [(m19, .inl (k 0, 40, .inl L13a0)), (m20, .inl (k 0, 120, .inl L13a1)), (m21, .inl (k 0, 20, .inl L13a2)), (m22, .inl (k 0, 600, .inl f22)), (m16, .inl (k 0, 5, .inl L13a4)), (m17, .inl (k 0, 30, .inl L13a5)), (m18, .inl (k 0, 250, .inl L13a6)), (mo, .inr (12, [.int 0, .ref m1, .ref m2, .ref m3, .ref m4, .ref m5, .int v6, .int o_165, .int o_166, .int o_167, .int o_168, .long o_169, .int o_170, .int o_171, .int v14, .int v15, .ref m16, .ref m17, .ref m18, .ref m19, .ref m20, .ref m21, .ref m22, .ref m23, .int v24, .ref m25, .ref m26, .ref m27, .ref m28, .ref m29, .int v30, .ref m31, .ref m32, .ref m33, .int v34, .int v35, .int v36, .ref m37, .ref m38, .ref m39, .ref m40, .long v41])), (m5, .inl (k 1, 1000, .inl f5))] H1 := hP
        have hD : va_D A [(m19, .inl (k 0, 40, .inl L13a0)), (m20, .inl (k 0, 120, .inl L13a1)), (m21, .inl (k 0, 20, .inl L13a2)), (m22, .inl (k 0, 600, .inl f22)), (m16, .inl (k 0, 5, .inl L13a4)), (m17, .inl (k 0, 30, .inl L13a5)), (m18, .inl (k 0, 250, .inl L13a6)), (mo, .inr (12, [.int 0, .ref m1, .ref m2, .ref m3, .ref m4, .ref m5, .int v6, .int o_165, .int o_166, .int o_167, .int o_168, .long o_169, .int o_170, .int o_171, .int v14, .int v15, .ref m16, .ref m17, .ref m18, .ref m19, .ref m20, .ref m21, .ref m22, .ref m23, .int v24, .ref m25, .ref m26, .ref m27, .ref m28, .ref m29, .int v30, .ref m31, .ref m32, .ref m33, .int v34, .int v35, .int v36, .ref m37, .ref m38, .ref m39, .ref m40, .long v41])), (m5, .inl (k 1, 1000, .inl f5))] := hD
        generalize H1 = H at hP hS ⊢
        have hw_172 : (0 ≤ o_165.toInt ∧ o_165.toInt ≤ 1000) ∧ (L13f7x7.toInt ≤ o_165.toInt ∧ o_165.toInt ≤ v6.toInt) := hw
        obtain ⟨hw_173, hw_174⟩ := hw_172
        clear hw
        refine lv_aload_n hx hb dX12_town_43 rfl (lv_at hl 0 rfl) ?_
        refine lv_iconst (v := 0) hx hb dX12_town_44 (by decide) ?_
        refine lv_aload_n hx hb dX12_town_45 rfl (lv_at hl 0 rfl) ?_
        refine lv_ldc2 (v := 7657635988) hx hb hown (hts _ tw_7_28) dX12_town_46 ?_
        refine lv_iconst (v := 2) hx hb dX12_town_49 (by decide) ?_
        refine lv_bipush (v := 8) hx hb dX12_town_50 (by decide) ?_
        have hPc := hP.sub (ws' := [(mo, .inr (12, [.int 0, .ref m1, .ref m2, .ref m3, .ref m4, .ref m5, .int v6, .int o_165, .int o_166, .int o_167, .int o_168, .long o_169, .int o_170, .int o_171, .int v14, .int v15, .ref m16, .ref m17, .ref m18, .ref m19, .ref m20, .ref m21, .ref m22, .ref m23, .int v24, .ref m25, .ref m26, .ref m27, .ref m28, .ref m29, .int v30, .ref m31, .ref m32, .ref m33, .int v34, .int v35, .int v36, .ref m37, .ref m38, .ref m39, .ref m40, .long v41])), (m5, .inl (k 1, 1000, .inl f5))]) [7, 8] rfl
        have hDc := hD.sub (ws' := [(mo, .inr (12, [.int 0, .ref m1, .ref m2, .ref m3, .ref m4, .ref m5, .int v6, .int o_165, .int o_166, .int o_167, .int o_168, .long o_169, .int o_170, .int o_171, .int v14, .int v15, .ref m16, .ref m17, .ref m18, .ref m19, .ref m20, .ref m21, .ref m22, .ref m23, .int v24, .ref m25, .ref m26, .ref m27, .ref m28, .ref m29, .int v30, .ref m31, .ref m32, .ref m33, .int v34, .int v35, .int v36, .ref m37, .ref m38, .ref m39, .ref m40, .long v41])), (m5, .inl (k 1, 1000, .inl f5))]) [7, 8] (by decide) rfl
        have hFc := va_free (wc := [(mo, .inr (12, [.int 0, .ref m1, .ref m2, .ref m3, .ref m4, .ref m5, .int v6, .int o_165, .int o_166, .int o_167, .int o_168, .long o_169, .int o_170, .int o_171, .int v14, .int v15, .ref m16, .ref m17, .ref m18, .ref m19, .ref m20, .ref m21, .ref m22, .ref m23, .int v24, .ref m25, .ref m26, .ref m27, .ref m28, .ref m29, .int v30, .ref m31, .ref m32, .ref m33, .int v34, .int v35, .int v36, .ref m37, .ref m38, .ref m39, .ref m40, .long v41])), (m5, .inl (k 1, 1000, .inl f5))]) hD hS hA [7, 8] rfl
        refine va_calli (va_runV (C := RX12) (As := [.long 7657635988, .int 2, .int 8]) (rest := [.int 0, .ref mo]) ⟨hx, hb, hml, hown, hts⟩ (c_X12_number_ l D k mo 7657635988 2 8 0 m1 m2 m3 m4 m5 v6 o_165 o_166 o_167 o_168 o_169 o_170 o_171 v14 v15 m16 m17 m18 m19 m20 m21 m22 m23 v24 m25 m26 m27 m28 m29 v30 m31 m32 m33 v34 v35 v36 m37 m38 m39 m40 v41 f5 H.size (show 0 ≤ v6.toInt ∧ v6.toInt ≤ 1000 from by omega) (show 0 ≤ o_165.toInt ∧ o_165.toInt ≤ 1000 from by omega) (show 0 ≤ v24.toInt ∧ v24.toInt ≤ 1023 from by omega) (show o_165.toInt ≤ v6.toInt from by omega)) (cwV 3 hts (gV tw_7_29 tw_7_31 tw_p_46 tw_1_13 tw_7_32) rfl rfl rfl hdV_X12_number_ ⟨Nat.le_of_ble_eq_true rfl, Nat.le_of_ble_eq_true rfl⟩) (cz_V hK hPc hDc hN (ci := 12) (q0 := 0) rfl rfl [.long 7657635988, .int 2, .int 8]) rfl rfl hl.1 rfl (lv_room (Nat.le_of_ble_eq_true rfl)) dX12_town_52 ⟨Nat.le_of_ble_eq_true rfl, Nat.le_of_ble_eq_true rfl⟩) hS (fun q _ h => hFc q h) hFc (fun r_175 uZ tZ H1 locs ht hvm hw hB hz1 hk1 hS => ?_)
        obtain ⟨o_176, o_177, o_178, o_179, o_180, o_181, o_182⟩ := uZ
        obtain ⟨hP1, hK1, hD1⟩ := hB
        rw [ht] at hP1
        obtain ⟨hP, hD⟩ := va_join (wr := [(m19, .inl (k 0, 40, .inl L13a0)), (m20, .inl (k 0, 120, .inl L13a1)), (m21, .inl (k 0, 20, .inl L13a2)), (m22, .inl (k 0, 600, .inl f22)), (m16, .inl (k 0, 5, .inl L13a4)), (m17, .inl (k 0, 30, .inl L13a5)), (m18, .inl (k 0, 250, .inl L13a6))]) (w1 := [(mo, .inr (12, [.int 0, .ref m1, .ref m2, .ref m3, .ref m4, .ref m5, .int v6, .int o_176, .int o_177, .int o_178, .int o_179, .long o_180, .int o_181, .int o_182, .int v14, .int v15, .ref m16, .ref m17, .ref m18, .ref m19, .ref m20, .ref m21, .ref m22, .ref m23, .int v24, .ref m25, .ref m26, .ref m27, .ref m28, .ref m29, .int v30, .ref m31, .ref m32, .ref m33, .int v34, .int v35, .int v36, .ref m37, .ref m38, .ref m39, .ref m40, .long v41])), (m5, .inl (k 1, 1000, .inl f5))]) hP hD [7, 8] [0, 1, 2, 3, 4, 5, 6] rfl rfl (by decide) (by decide) hk1 hFc hP1 hD1
        clear hK1 hP1 hD1 hPc hDc hFc
        clear hk1 hz1 ht hvm
        have hP : va_P D vwCl [(m19, .inl (k 0, 40, .inl L13a0)), (m20, .inl (k 0, 120, .inl L13a1)), (m21, .inl (k 0, 20, .inl L13a2)), (m22, .inl (k 0, 600, .inl f22)), (m16, .inl (k 0, 5, .inl L13a4)), (m17, .inl (k 0, 30, .inl L13a5)), (m18, .inl (k 0, 250, .inl L13a6)), (mo, .inr (12, [.int 0, .ref m1, .ref m2, .ref m3, .ref m4, .ref m5, .int v6, .int o_176, .int o_177, .int o_178, .int o_179, .long o_180, .int o_181, .int o_182, .int v14, .int v15, .ref m16, .ref m17, .ref m18, .ref m19, .ref m20, .ref m21, .ref m22, .ref m23, .int v24, .ref m25, .ref m26, .ref m27, .ref m28, .ref m29, .int v30, .ref m31, .ref m32, .ref m33, .int v34, .int v35, .int v36, .ref m37, .ref m38, .ref m39, .ref m40, .long v41])), (m5, .inl (k 1, 1000, .inl f5))] H1 := hP
        have hD : va_D A [(m19, .inl (k 0, 40, .inl L13a0)), (m20, .inl (k 0, 120, .inl L13a1)), (m21, .inl (k 0, 20, .inl L13a2)), (m22, .inl (k 0, 600, .inl f22)), (m16, .inl (k 0, 5, .inl L13a4)), (m17, .inl (k 0, 30, .inl L13a5)), (m18, .inl (k 0, 250, .inl L13a6)), (mo, .inr (12, [.int 0, .ref m1, .ref m2, .ref m3, .ref m4, .ref m5, .int v6, .int o_176, .int o_177, .int o_178, .int o_179, .long o_180, .int o_181, .int o_182, .int v14, .int v15, .ref m16, .ref m17, .ref m18, .ref m19, .ref m20, .ref m21, .ref m22, .ref m23, .int v24, .ref m25, .ref m26, .ref m27, .ref m28, .ref m29, .int v30, .ref m31, .ref m32, .ref m33, .int v34, .int v35, .int v36, .ref m37, .ref m38, .ref m39, .ref m40, .long v41])), (m5, .inl (k 1, 1000, .inl f5))] := hD
        generalize H1 = H at hP hS ⊢
        have hw_183 : (0 ≤ o_176.toInt ∧ o_176.toInt ≤ 1000) ∧ (o_165.toInt ≤ o_176.toInt ∧ o_176.toInt ≤ v6.toInt) ∧ (r_175.toInt = 2 ∨ (2 ≤ r_175.toInt ∧ r_175.toInt ≤ 8)) := hw
        obtain ⟨hw_184, hw_185, hw_186⟩ := hw_183
        clear hw
        have hPc := hP.sub (ws' := [(mo, .inr (12, [.int 0, .ref m1, .ref m2, .ref m3, .ref m4, .ref m5, .int v6, .int o_176, .int o_177, .int o_178, .int o_179, .long o_180, .int o_181, .int o_182, .int v14, .int v15, .ref m16, .ref m17, .ref m18, .ref m19, .ref m20, .ref m21, .ref m22, .ref m23, .int v24, .ref m25, .ref m26, .ref m27, .ref m28, .ref m29, .int v30, .ref m31, .ref m32, .ref m33, .int v34, .int v35, .int v36, .ref m37, .ref m38, .ref m39, .ref m40, .long v41])), (m17, .inl (k 0, 30, .inl L13a5))]) [7, 5] rfl
        have hDc := hD.sub (ws' := [(mo, .inr (12, [.int 0, .ref m1, .ref m2, .ref m3, .ref m4, .ref m5, .int v6, .int o_176, .int o_177, .int o_178, .int o_179, .long o_180, .int o_181, .int o_182, .int v14, .int v15, .ref m16, .ref m17, .ref m18, .ref m19, .ref m20, .ref m21, .ref m22, .ref m23, .int v24, .ref m25, .ref m26, .ref m27, .ref m28, .ref m29, .int v30, .ref m31, .ref m32, .ref m33, .int v34, .int v35, .int v36, .ref m37, .ref m38, .ref m39, .ref m40, .long v41])), (m17, .inl (k 0, 30, .inl L13a5))]) [7, 5] (by decide) rfl
        have hFc := va_free (wc := [(mo, .inr (12, [.int 0, .ref m1, .ref m2, .ref m3, .ref m4, .ref m5, .int v6, .int o_176, .int o_177, .int o_178, .int o_179, .long o_180, .int o_181, .int o_182, .int v14, .int v15, .ref m16, .ref m17, .ref m18, .ref m19, .ref m20, .ref m21, .ref m22, .ref m23, .int v24, .ref m25, .ref m26, .ref m27, .ref m28, .ref m29, .int v30, .ref m31, .ref m32, .ref m33, .int v34, .int v35, .int v36, .ref m37, .ref m38, .ref m39, .ref m40, .long v41])), (m17, .inl (k 0, 30, .inl L13a5))]) hD hS hA [7, 5] rfl
        refine va_callv (va_runV (C := RX12) (As := [.int 0, .int r_175]) (rest := []) ⟨hx, hb, hml, hown, hts⟩ (c_X12_tells_1 l D k mo r_175 0 m1 m2 m3 m4 m5 v6 o_176 o_177 o_178 o_179 o_180 o_181 o_182 v14 v15 m16 m17 m18 m19 m20 m21 m22 m23 v24 m25 m26 m27 m28 m29 v30 m31 m32 m33 v34 v35 v36 m37 m38 m39 m40 v41 L13a5 H.size (show 0 ≤ r_175.toInt ∧ r_175.toInt ≤ 8 from by omega) (show 0 ≤ v6.toInt ∧ v6.toInt ≤ 1000 from by omega) (show 0 ≤ v24.toInt ∧ v24.toInt ≤ 1023 from by omega) L13a5h0 L13a5h1 L13a5h2 L13a5h3 L13a5h4 L13a5h5) (cwV 2 hts (gV tw_6_226 tw_6_228 tw_p_37 tw_1_13 tw_6_229) rfl rfl rfl hdV_X12_tells ⟨Nat.le_of_ble_eq_true rfl, Nat.le_of_ble_eq_true rfl⟩) (cz_V hK hPc hDc hN (ci := 12) (q0 := 0) rfl rfl [.int 0, .int r_175]) rfl rfl hl.1 rfl (lv_room (Nat.le_of_ble_eq_true rfl)) dX12_town_55 ⟨Nat.le_of_ble_eq_true rfl, Nat.le_of_ble_eq_true rfl⟩) hS (fun q _ h => hFc q h) hFc (fun uZ tZ H1 locs ht hvm hw hB hz1 hk1 hS => ?_)
        obtain ⟨o_188, rfl⟩ : ∃ z, z = uZ := ⟨_, rfl⟩
        obtain ⟨hP1, hK1, hD1⟩ := hB
        rw [ht] at hP1
        obtain ⟨hP, hD⟩ := va_join (wr := [(m19, .inl (k 0, 40, .inl L13a0)), (m20, .inl (k 0, 120, .inl L13a1)), (m21, .inl (k 0, 20, .inl L13a2)), (m22, .inl (k 0, 600, .inl f22)), (m16, .inl (k 0, 5, .inl L13a4)), (m18, .inl (k 0, 250, .inl L13a6)), (m5, .inl (k 1, 1000, .inl f5))]) (w1 := [(mo, .inr (12, [.int 0, .ref m1, .ref m2, .ref m3, .ref m4, .ref m5, .int v6, .int o_176, .int o_177, .int o_178, .int o_179, .long o_180, .int o_181, .int o_182, .int v14, .int v15, .ref m16, .ref m17, .ref m18, .ref m19, .ref m20, .ref m21, .ref m22, .ref m23, .int v24, .ref m25, .ref m26, .ref m27, .ref m28, .ref m29, .int v30, .ref m31, .ref m32, .ref m33, .int v34, .int v35, .int v36, .ref m37, .ref m38, .ref m39, .ref m40, .long v41])), (m17, .inl (k 0, 30, .inl o_188))]) hP hD [7, 5] [0, 1, 2, 3, 4, 6, 8] rfl rfl (by decide) (by decide) hk1 hFc hP1 hD1
        clear hK1 hP1 hD1 hPc hDc hFc
        clear hk1 hz1 ht hvm
        have hP : va_P D vwCl [(m19, .inl (k 0, 40, .inl L13a0)), (m20, .inl (k 0, 120, .inl L13a1)), (m21, .inl (k 0, 20, .inl L13a2)), (m22, .inl (k 0, 600, .inl f22)), (m16, .inl (k 0, 5, .inl L13a4)), (m18, .inl (k 0, 250, .inl L13a6)), (m5, .inl (k 1, 1000, .inl f5)), (mo, .inr (12, [.int 0, .ref m1, .ref m2, .ref m3, .ref m4, .ref m5, .int v6, .int o_176, .int o_177, .int o_178, .int o_179, .long o_180, .int o_181, .int o_182, .int v14, .int v15, .ref m16, .ref m17, .ref m18, .ref m19, .ref m20, .ref m21, .ref m22, .ref m23, .int v24, .ref m25, .ref m26, .ref m27, .ref m28, .ref m29, .int v30, .ref m31, .ref m32, .ref m33, .int v34, .int v35, .int v36, .ref m37, .ref m38, .ref m39, .ref m40, .long v41])), (m17, .inl (k 0, 30, .inl o_188))] H1 := hP
        have hD : va_D A [(m19, .inl (k 0, 40, .inl L13a0)), (m20, .inl (k 0, 120, .inl L13a1)), (m21, .inl (k 0, 20, .inl L13a2)), (m22, .inl (k 0, 600, .inl f22)), (m16, .inl (k 0, 5, .inl L13a4)), (m18, .inl (k 0, 250, .inl L13a6)), (m5, .inl (k 1, 1000, .inl f5)), (mo, .inr (12, [.int 0, .ref m1, .ref m2, .ref m3, .ref m4, .ref m5, .int v6, .int o_176, .int o_177, .int o_178, .int o_179, .long o_180, .int o_181, .int o_182, .int v14, .int v15, .ref m16, .ref m17, .ref m18, .ref m19, .ref m20, .ref m21, .ref m22, .ref m23, .int v24, .ref m25, .ref m26, .ref m27, .ref m28, .ref m29, .int v30, .ref m31, .ref m32, .ref m33, .int v34, .int v35, .int v36, .ref m37, .ref m38, .ref m39, .ref m40, .long v41])), (m17, .inl (k 0, 30, .inl o_188))] := hD
        generalize H1 = H at hP hS ⊢
        have hw_189 : (PR 30 6 0 0 8 o_188) ∧ (PR 30 6 1 0 10 o_188) ∧ (PR 30 6 2 0 4 o_188) ∧ (PR 30 6 3 0 6 o_188) ∧ (PR 30 6 4 0 2 o_188) ∧ (PR 30 6 5 0 40 o_188) ∧ (o_188 = upd L13a5 24 r_175) := hw
        obtain ⟨hw_190, hw_191, hw_192, hw_193, hw_194, hw_195, hw_196⟩ := hw_189
        clear hw
        have tk_197 : TK o_188 L13a6 := by rw [hw_196]; exact TK.other hi13x2 (by decide)
        refine lv_goto (tgt := 65) hx hb dX12_town_58 (by decide) ?_
        refine lv_aload_n hx hb dX12_town_65 rfl (lv_at hl 0 rfl) ?_
        have hPc := hP.sub (ws' := [(mo, .inr (12, [.int 0, .ref m1, .ref m2, .ref m3, .ref m4, .ref m5, .int v6, .int o_176, .int o_177, .int o_178, .int o_179, .long o_180, .int o_181, .int o_182, .int v14, .int v15, .ref m16, .ref m17, .ref m18, .ref m19, .ref m20, .ref m21, .ref m22, .ref m23, .int v24, .ref m25, .ref m26, .ref m27, .ref m28, .ref m29, .int v30, .ref m31, .ref m32, .ref m33, .int v34, .int v35, .int v36, .ref m37, .ref m38, .ref m39, .ref m40, .long v41]))]) [7] rfl
        have hDc := hD.sub (ws' := [(mo, .inr (12, [.int 0, .ref m1, .ref m2, .ref m3, .ref m4, .ref m5, .int v6, .int o_176, .int o_177, .int o_178, .int o_179, .long o_180, .int o_181, .int o_182, .int v14, .int v15, .ref m16, .ref m17, .ref m18, .ref m19, .ref m20, .ref m21, .ref m22, .ref m23, .int v24, .ref m25, .ref m26, .ref m27, .ref m28, .ref m29, .int v30, .ref m31, .ref m32, .ref m33, .int v34, .int v35, .int v36, .ref m37, .ref m38, .ref m39, .ref m40, .long v41]))]) [7] (by decide) rfl
        have hFc := va_free (wc := [(mo, .inr (12, [.int 0, .ref m1, .ref m2, .ref m3, .ref m4, .ref m5, .int v6, .int o_176, .int o_177, .int o_178, .int o_179, .long o_180, .int o_181, .int o_182, .int v14, .int v15, .ref m16, .ref m17, .ref m18, .ref m19, .ref m20, .ref m21, .ref m22, .ref m23, .int v24, .ref m25, .ref m26, .ref m27, .ref m28, .ref m29, .int v30, .ref m31, .ref m32, .ref m33, .int v34, .int v35, .int v36, .ref m37, .ref m38, .ref m39, .ref m40, .long v41]))]) hD hS hA [7] rfl
        refine va_calli (va_runV (C := RX12) (As := []) (rest := []) ⟨hx, hb, hml, hown, hts⟩ (c_X12_isGood l D k mo 0 m1 m2 m3 m4 m5 v6 o_176 o_177 o_178 o_179 o_180 o_181 o_182 v14 v15 m16 m17 m18 m19 m20 m21 m22 m23 v24 m25 m26 m27 m28 m29 v30 m31 m32 m33 v34 v35 v36 m37 m38 m39 m40 v41 H.size (show 0 ≤ v6.toInt ∧ v6.toInt ≤ 1000 from by omega) (show 0 ≤ v24.toInt ∧ v24.toInt ≤ 1023 from by omega)) (cwV 0 hts (gV tw_7_7 tw_7_9 tw_p_41 tw_1_13 tw_7_10) rfl rfl rfl hdV_X12_isGood ⟨Nat.le_of_ble_eq_true rfl, Nat.le_of_ble_eq_true rfl⟩) (cz_V hK hPc hDc hN (ci := 12) (q0 := 0) rfl rfl []) rfl rfl hl.1 rfl (lv_room (Nat.le_of_ble_eq_true rfl)) dX12_town_66 ⟨Nat.le_of_ble_eq_true rfl, Nat.le_of_ble_eq_true rfl⟩) hS (fun q _ h => hFc q h) hFc (fun r_198 uZ tZ H1 locs ht hvm hw hB hz1 hk1 hS => ?_)
        obtain ⟨hP1, hK1, hD1⟩ := hB
        rw [ht] at hP1
        obtain ⟨hP, hD⟩ := va_join (wr := [(m19, .inl (k 0, 40, .inl L13a0)), (m20, .inl (k 0, 120, .inl L13a1)), (m21, .inl (k 0, 20, .inl L13a2)), (m22, .inl (k 0, 600, .inl f22)), (m16, .inl (k 0, 5, .inl L13a4)), (m18, .inl (k 0, 250, .inl L13a6)), (m5, .inl (k 1, 1000, .inl f5)), (m17, .inl (k 0, 30, .inl o_188))]) (w1 := [(mo, .inr (12, [.int 0, .ref m1, .ref m2, .ref m3, .ref m4, .ref m5, .int v6, .int o_176, .int o_177, .int o_178, .int o_179, .long o_180, .int o_181, .int o_182, .int v14, .int v15, .ref m16, .ref m17, .ref m18, .ref m19, .ref m20, .ref m21, .ref m22, .ref m23, .int v24, .ref m25, .ref m26, .ref m27, .ref m28, .ref m29, .int v30, .ref m31, .ref m32, .ref m33, .int v34, .int v35, .int v36, .ref m37, .ref m38, .ref m39, .ref m40, .long v41]))]) hP hD [7] [0, 1, 2, 3, 4, 5, 6, 8] rfl rfl (by decide) (by decide) hk1 hFc hP1 hD1
        clear hK1 hP1 hD1 hPc hDc hFc
        clear hk1 hz1 ht hvm
        have hP : va_P D vwCl [(m19, .inl (k 0, 40, .inl L13a0)), (m20, .inl (k 0, 120, .inl L13a1)), (m21, .inl (k 0, 20, .inl L13a2)), (m22, .inl (k 0, 600, .inl f22)), (m16, .inl (k 0, 5, .inl L13a4)), (m18, .inl (k 0, 250, .inl L13a6)), (m5, .inl (k 1, 1000, .inl f5)), (m17, .inl (k 0, 30, .inl o_188)), (mo, .inr (12, [.int 0, .ref m1, .ref m2, .ref m3, .ref m4, .ref m5, .int v6, .int o_176, .int o_177, .int o_178, .int o_179, .long o_180, .int o_181, .int o_182, .int v14, .int v15, .ref m16, .ref m17, .ref m18, .ref m19, .ref m20, .ref m21, .ref m22, .ref m23, .int v24, .ref m25, .ref m26, .ref m27, .ref m28, .ref m29, .int v30, .ref m31, .ref m32, .ref m33, .int v34, .int v35, .int v36, .ref m37, .ref m38, .ref m39, .ref m40, .long v41]))] H1 := hP
        have hD : va_D A [(m19, .inl (k 0, 40, .inl L13a0)), (m20, .inl (k 0, 120, .inl L13a1)), (m21, .inl (k 0, 20, .inl L13a2)), (m22, .inl (k 0, 600, .inl f22)), (m16, .inl (k 0, 5, .inl L13a4)), (m18, .inl (k 0, 250, .inl L13a6)), (m5, .inl (k 1, 1000, .inl f5)), (m17, .inl (k 0, 30, .inl o_188)), (mo, .inr (12, [.int 0, .ref m1, .ref m2, .ref m3, .ref m4, .ref m5, .int v6, .int o_176, .int o_177, .int o_178, .int o_179, .long o_180, .int o_181, .int o_182, .int v14, .int v15, .ref m16, .ref m17, .ref m18, .ref m19, .ref m20, .ref m21, .ref m22, .ref m23, .int v24, .ref m25, .ref m26, .ref m27, .ref m28, .ref m29, .int v30, .ref m31, .ref m32, .ref m33, .int v34, .int v35, .int v36, .ref m37, .ref m38, .ref m39, .ref m40, .long v41]))] := hD
        generalize H1 = H at hP hS ⊢
        have hw_199 : (0 ≤ r_198.toInt ∧ r_198.toInt ≤ 1) ∧ ((r_198.toInt = 1 ∧ o_181.toInt = 0) ∨ (r_198.toInt = 0 ∧ ¬ o_181.toInt = 0)) := hw
        obtain ⟨hw_200, hw_201⟩ := hw_199
        clear hw
        refine lv_if_eq (tgt := 76) hx hb dX12_town_69 (by decide) (fun h_202 => ?_) (fun h_202 => ?_)
        · skip
          have zh_202 : r_198.toInt = 0 := z_eq h_202
          refine lv_aload_n hx hb dX12_town_76 rfl (lv_at hl 0 rfl) ?_
          refine va_get (D := D) (ci := 12) (v := .ref m16) (C := RX12) (T := TX12) (N := 42) hx hb hts iT_X12 hown hK hP 8 rfl rfl 16 (by decide) (hts _ tw_6_69) (fun _ h9 => h9) rfl dX12_town_77 ?_
          refine lv_iconst (v := 4) hx hb dX12_town_80 (by decide) ?_
          refine lv_dup2_11 hx hb dX12_town_81 rfl rfl ?_
          refine va_iald hx hb hK hP 4 0 rfl rfl (z_in (by decide) (by decide)) dX12_town_82 ?_
          refine lv_topi (fun x_203 ex_203 => ?_)
          obtain rfl : x_107 = x_203 := ex_107.trans ex_203.symm
          refine lv_iconst (v := 1) hx hb dX12_town_83 (by decide) ?_
          refine lv_iadd hx hb dX12_town_84 ?_
          refine lv_topi (fun x_204 ex_204 => ?_)
          have zx_204 : x_204.toInt = x_107.toInt + 1 := by rw [ex_204]; exact z_add rfl rfl (by omega) (by omega)
          refine va_iast hx hb hK hP hD hS 4 0 rfl rfl (z_in (by decide) (by decide)) dX12_town_85 (fun H locs hP hD hS => ?_)
          obtain ⟨g_205, eg_205⟩ : ∃ z : Nat → Int32, upd L13a4 4 x_204 = z := ⟨_, rfl⟩
          have hP : va_P D vwCl [(m19, .inl (k 0, 40, .inl L13a0)), (m20, .inl (k 0, 120, .inl L13a1)), (m21, .inl (k 0, 20, .inl L13a2)), (m22, .inl (k 0, 600, .inl f22)), (m16, .inl (k 0, 5, .inl (upd L13a4 4 x_204))), (m18, .inl (k 0, 250, .inl L13a6)), (m5, .inl (k 1, 1000, .inl f5)), (m17, .inl (k 0, 30, .inl o_188)), (mo, .inr (12, [.int 0, .ref m1, .ref m2, .ref m3, .ref m4, .ref m5, .int v6, .int o_176, .int o_177, .int o_178, .int o_179, .long o_180, .int o_181, .int o_182, .int v14, .int v15, .ref m16, .ref m17, .ref m18, .ref m19, .ref m20, .ref m21, .ref m22, .ref m23, .int v24, .ref m25, .ref m26, .ref m27, .ref m28, .ref m29, .int v30, .ref m31, .ref m32, .ref m33, .int v34, .int v35, .int v36, .ref m37, .ref m38, .ref m39, .ref m40, .long v41]))] H := hP
          have hD : va_D A [(m19, .inl (k 0, 40, .inl L13a0)), (m20, .inl (k 0, 120, .inl L13a1)), (m21, .inl (k 0, 20, .inl L13a2)), (m22, .inl (k 0, 600, .inl f22)), (m16, .inl (k 0, 5, .inl (upd L13a4 4 x_204))), (m18, .inl (k 0, 250, .inl L13a6)), (m5, .inl (k 1, 1000, .inl f5)), (m17, .inl (k 0, 30, .inl o_188)), (mo, .inr (12, [.int 0, .ref m1, .ref m2, .ref m3, .ref m4, .ref m5, .int v6, .int o_176, .int o_177, .int o_178, .int o_179, .long o_180, .int o_181, .int o_182, .int v14, .int v15, .ref m16, .ref m17, .ref m18, .ref m19, .ref m20, .ref m21, .ref m22, .ref m23, .int v24, .ref m25, .ref m26, .ref m27, .ref m28, .ref m29, .int v30, .ref m31, .ref m32, .ref m33, .int v34, .int v35, .int v36, .ref m37, .ref m38, .ref m39, .ref m40, .long v41]))] := hD
          rw [eg_205] at hP hD
          refine lv_goto (tgt := 13) hx hb dX12_town_86 (by decide) ?_
          exact ih_27 _ _ _ _ (by rw [en_28]; exact mz_lt (by omega) (by omega) (by omega) (by omega) (by omega) (by omega)) ⟨L13a0, L13a1, L13a2, g_205, o_188, L13a6, o_176, o_177, o_178, o_179, o_180, o_181, o_182, rfl, L13a0h0, L13a0h1, L13a1h0, L13a2h0, L13a2h1, hw_190, hw_191, hw_192, hw_193, hw_194, hw_195, L13a6h0, L13a6h1, L13a6h2, L13a6h3, (show 0 ≤ o_176.toInt ∧ o_176.toInt ≤ 1000 from by omega), (show o_176.toInt ≤ v6.toInt from by omega), (show 0 ≤ o_176.toInt from by omega), tk_197, hP.sub (ws' := [(m19, .inl (k 0, 40, .inl L13a0)), (m20, .inl (k 0, 120, .inl L13a1)), (m21, .inl (k 0, 20, .inl L13a2)), (m22, .inl (k 0, 600, .inl f22)), (m16, .inl (k 0, 5, .inl g_205)), (m17, .inl (k 0, 30, .inl o_188)), (m18, .inl (k 0, 250, .inl L13a6)), (mo, .inr (12, [.int 0, .ref m1, .ref m2, .ref m3, .ref m4, .ref m5, .int v6, .int o_176, .int o_177, .int o_178, .int o_179, .long o_180, .int o_181, .int o_182, .int v14, .int v15, .ref m16, .ref m17, .ref m18, .ref m19, .ref m20, .ref m21, .ref m22, .ref m23, .int v24, .ref m25, .ref m26, .ref m27, .ref m28, .ref m29, .int v30, .ref m31, .ref m32, .ref m33, .int v34, .int v35, .int v36, .ref m37, .ref m38, .ref m39, .ref m40, .long v41])), (m5, .inl (k 1, 1000, .inl f5))]) [0, 1, 2, 3, 4, 7, 5, 8, 6] rfl, hD.sub (ws' := [(m19, .inl (k 0, 40, .inl L13a0)), (m20, .inl (k 0, 120, .inl L13a1)), (m21, .inl (k 0, 20, .inl L13a2)), (m22, .inl (k 0, 600, .inl f22)), (m16, .inl (k 0, 5, .inl g_205)), (m17, .inl (k 0, 30, .inl o_188)), (m18, .inl (k 0, 250, .inl L13a6)), (mo, .inr (12, [.int 0, .ref m1, .ref m2, .ref m3, .ref m4, .ref m5, .int v6, .int o_176, .int o_177, .int o_178, .int o_179, .long o_180, .int o_181, .int o_182, .int v14, .int v15, .ref m16, .ref m17, .ref m18, .ref m19, .ref m20, .ref m21, .ref m22, .ref m23, .int v24, .ref m25, .ref m26, .ref m27, .ref m28, .ref m29, .int v30, .ref m31, .ref m32, .ref m33, .int v34, .int v35, .int v36, .ref m37, .ref m38, .ref m39, .ref m40, .long v41])), (m5, .inl (k 1, 1000, .inl f5))]) [0, 1, 2, 3, 4, 7, 5, 8, 6] (by decide) rfl, hS, lv_sub hl [0] rfl⟩
        · skip
          have zh_202 : ¬ r_198.toInt = 0 := z_ne h_202
          refine lv_aload_n hx hb dX12_town_72 rfl (lv_at hl 0 rfl) ?_
          have hPc := hP.sub (ws' := [(mo, .inr (12, [.int 0, .ref m1, .ref m2, .ref m3, .ref m4, .ref m5, .int v6, .int o_176, .int o_177, .int o_178, .int o_179, .long o_180, .int o_181, .int o_182, .int v14, .int v15, .ref m16, .ref m17, .ref m18, .ref m19, .ref m20, .ref m21, .ref m22, .ref m23, .int v24, .ref m25, .ref m26, .ref m27, .ref m28, .ref m29, .int v30, .ref m31, .ref m32, .ref m33, .int v34, .int v35, .int v36, .ref m37, .ref m38, .ref m39, .ref m40, .long v41])), (m5, .inl (k 1, 1000, .inl f5))]) [8, 6] rfl
          have hDc := hD.sub (ws' := [(mo, .inr (12, [.int 0, .ref m1, .ref m2, .ref m3, .ref m4, .ref m5, .int v6, .int o_176, .int o_177, .int o_178, .int o_179, .long o_180, .int o_181, .int o_182, .int v14, .int v15, .ref m16, .ref m17, .ref m18, .ref m19, .ref m20, .ref m21, .ref m22, .ref m23, .int v24, .ref m25, .ref m26, .ref m27, .ref m28, .ref m29, .int v30, .ref m31, .ref m32, .ref m33, .int v34, .int v35, .int v36, .ref m37, .ref m38, .ref m39, .ref m40, .long v41])), (m5, .inl (k 1, 1000, .inl f5))]) [8, 6] (by decide) rfl
          have hFc := va_free (wc := [(mo, .inr (12, [.int 0, .ref m1, .ref m2, .ref m3, .ref m4, .ref m5, .int v6, .int o_176, .int o_177, .int o_178, .int o_179, .long o_180, .int o_181, .int o_182, .int v14, .int v15, .ref m16, .ref m17, .ref m18, .ref m19, .ref m20, .ref m21, .ref m22, .ref m23, .int v24, .ref m25, .ref m26, .ref m27, .ref m28, .ref m29, .int v30, .ref m31, .ref m32, .ref m33, .int v34, .int v35, .int v36, .ref m37, .ref m38, .ref m39, .ref m40, .long v41])), (m5, .inl (k 1, 1000, .inl f5))]) hD hS hA [8, 6] rfl
          refine va_callv (va_runV (C := RX12) (As := []) (rest := []) ⟨hx, hb, hml, hown, hts⟩ (c_X12_ends l D k mo 0 m1 m2 m3 m4 m5 v6 o_176 o_177 o_178 o_179 o_180 o_181 o_182 v14 v15 m16 m17 m18 m19 m20 m21 m22 m23 v24 m25 m26 m27 m28 m29 v30 m31 m32 m33 v34 v35 v36 m37 m38 m39 m40 v41 f5 H.size (show 0 ≤ v6.toInt ∧ v6.toInt ≤ 1000 from by omega) (show 0 ≤ o_176.toInt ∧ o_176.toInt ≤ 1000 from by omega) (show 0 ≤ v24.toInt ∧ v24.toInt ≤ 1023 from by omega) (show o_176.toInt ≤ v6.toInt from by omega)) (cwV 0 hts (gV tw_7_79 tw_7_81 tw_p_55 tw_1_13 tw_7_82) rfl rfl rfl hdV_X12_ends ⟨Nat.le_of_ble_eq_true rfl, Nat.le_of_ble_eq_true rfl⟩) (cz_V hK hPc hDc hN (ci := 12) (q0 := 0) rfl rfl []) rfl rfl hl.1 rfl (lv_room (Nat.le_of_ble_eq_true rfl)) dX12_town_73 ⟨Nat.le_of_ble_eq_true rfl, Nat.le_of_ble_eq_true rfl⟩) hS (fun q _ h => hFc q h) hFc (fun uZ tZ H1 locs ht hvm hw hB hz1 hk1 hS => ?_)
          obtain ⟨o_207, o_208, o_209, o_210, o_211, o_212, o_213⟩ := uZ
          obtain ⟨hP1, hK1, hD1⟩ := hB
          rw [ht] at hP1
          obtain ⟨hP, hD⟩ := va_join (wr := [(m19, .inl (k 0, 40, .inl L13a0)), (m20, .inl (k 0, 120, .inl L13a1)), (m21, .inl (k 0, 20, .inl L13a2)), (m22, .inl (k 0, 600, .inl f22)), (m16, .inl (k 0, 5, .inl L13a4)), (m18, .inl (k 0, 250, .inl L13a6)), (m17, .inl (k 0, 30, .inl o_188))]) (w1 := [(mo, .inr (12, [.int 0, .ref m1, .ref m2, .ref m3, .ref m4, .ref m5, .int v6, .int o_207, .int o_208, .int o_209, .int o_210, .long o_211, .int o_212, .int o_213, .int v14, .int v15, .ref m16, .ref m17, .ref m18, .ref m19, .ref m20, .ref m21, .ref m22, .ref m23, .int v24, .ref m25, .ref m26, .ref m27, .ref m28, .ref m29, .int v30, .ref m31, .ref m32, .ref m33, .int v34, .int v35, .int v36, .ref m37, .ref m38, .ref m39, .ref m40, .long v41])), (m5, .inl (k 1, 1000, .inl f5))]) hP hD [8, 6] [0, 1, 2, 3, 4, 5, 7] rfl rfl (by decide) (by decide) hk1 hFc hP1 hD1
          clear hK1 hP1 hD1 hPc hDc hFc
          clear hk1 hz1 ht hvm
          have hP : va_P D vwCl [(m19, .inl (k 0, 40, .inl L13a0)), (m20, .inl (k 0, 120, .inl L13a1)), (m21, .inl (k 0, 20, .inl L13a2)), (m22, .inl (k 0, 600, .inl f22)), (m16, .inl (k 0, 5, .inl L13a4)), (m18, .inl (k 0, 250, .inl L13a6)), (m17, .inl (k 0, 30, .inl o_188)), (mo, .inr (12, [.int 0, .ref m1, .ref m2, .ref m3, .ref m4, .ref m5, .int v6, .int o_207, .int o_208, .int o_209, .int o_210, .long o_211, .int o_212, .int o_213, .int v14, .int v15, .ref m16, .ref m17, .ref m18, .ref m19, .ref m20, .ref m21, .ref m22, .ref m23, .int v24, .ref m25, .ref m26, .ref m27, .ref m28, .ref m29, .int v30, .ref m31, .ref m32, .ref m33, .int v34, .int v35, .int v36, .ref m37, .ref m38, .ref m39, .ref m40, .long v41])), (m5, .inl (k 1, 1000, .inl f5))] H1 := hP
          have hD : va_D A [(m19, .inl (k 0, 40, .inl L13a0)), (m20, .inl (k 0, 120, .inl L13a1)), (m21, .inl (k 0, 20, .inl L13a2)), (m22, .inl (k 0, 600, .inl f22)), (m16, .inl (k 0, 5, .inl L13a4)), (m18, .inl (k 0, 250, .inl L13a6)), (m17, .inl (k 0, 30, .inl o_188)), (mo, .inr (12, [.int 0, .ref m1, .ref m2, .ref m3, .ref m4, .ref m5, .int v6, .int o_207, .int o_208, .int o_209, .int o_210, .long o_211, .int o_212, .int o_213, .int v14, .int v15, .ref m16, .ref m17, .ref m18, .ref m19, .ref m20, .ref m21, .ref m22, .ref m23, .int v24, .ref m25, .ref m26, .ref m27, .ref m28, .ref m29, .int v30, .ref m31, .ref m32, .ref m33, .int v34, .int v35, .int v36, .ref m37, .ref m38, .ref m39, .ref m40, .long v41])), (m5, .inl (k 1, 1000, .inl f5))] := hD
          generalize H1 = H at hP hS ⊢
          have hw_214 : (0 ≤ o_207.toInt ∧ o_207.toInt ≤ 1000) ∧ (o_176.toInt ≤ o_207.toInt ∧ o_207.toInt ≤ v6.toInt) ∧ (¬ o_212.toInt = 0 ∨ o_208.toInt = 0 ∨ o_176.toInt < o_207.toInt) := hw
          obtain ⟨hw_215, hw_216, hw_217⟩ := hw_214
          clear hw
          refine lv_aload_n hx hb dX12_town_76 rfl (lv_at hl 0 rfl) ?_
          refine va_get (D := D) (ci := 12) (v := .ref m16) (C := RX12) (T := TX12) (N := 42) hx hb hts iT_X12 hown hK hP 7 rfl rfl 16 (by decide) (hts _ tw_6_69) (fun _ h9 => h9) rfl dX12_town_77 ?_
          refine lv_iconst (v := 4) hx hb dX12_town_80 (by decide) ?_
          refine lv_dup2_11 hx hb dX12_town_81 rfl rfl ?_
          refine va_iald hx hb hK hP 4 0 rfl rfl (z_in (by decide) (by decide)) dX12_town_82 ?_
          refine lv_topi (fun x_218 ex_218 => ?_)
          obtain rfl : x_107 = x_218 := ex_107.trans ex_218.symm
          refine lv_iconst (v := 1) hx hb dX12_town_83 (by decide) ?_
          refine lv_iadd hx hb dX12_town_84 ?_
          refine lv_topi (fun x_219 ex_219 => ?_)
          have zx_219 : x_219.toInt = x_107.toInt + 1 := by rw [ex_219]; exact z_add rfl rfl (by omega) (by omega)
          refine va_iast hx hb hK hP hD hS 4 0 rfl rfl (z_in (by decide) (by decide)) dX12_town_85 (fun H locs hP hD hS => ?_)
          obtain ⟨g_220, eg_220⟩ : ∃ z : Nat → Int32, upd L13a4 4 x_219 = z := ⟨_, rfl⟩
          have hP : va_P D vwCl [(m19, .inl (k 0, 40, .inl L13a0)), (m20, .inl (k 0, 120, .inl L13a1)), (m21, .inl (k 0, 20, .inl L13a2)), (m22, .inl (k 0, 600, .inl f22)), (m16, .inl (k 0, 5, .inl (upd L13a4 4 x_219))), (m18, .inl (k 0, 250, .inl L13a6)), (m17, .inl (k 0, 30, .inl o_188)), (mo, .inr (12, [.int 0, .ref m1, .ref m2, .ref m3, .ref m4, .ref m5, .int v6, .int o_207, .int o_208, .int o_209, .int o_210, .long o_211, .int o_212, .int o_213, .int v14, .int v15, .ref m16, .ref m17, .ref m18, .ref m19, .ref m20, .ref m21, .ref m22, .ref m23, .int v24, .ref m25, .ref m26, .ref m27, .ref m28, .ref m29, .int v30, .ref m31, .ref m32, .ref m33, .int v34, .int v35, .int v36, .ref m37, .ref m38, .ref m39, .ref m40, .long v41])), (m5, .inl (k 1, 1000, .inl f5))] H := hP
          have hD : va_D A [(m19, .inl (k 0, 40, .inl L13a0)), (m20, .inl (k 0, 120, .inl L13a1)), (m21, .inl (k 0, 20, .inl L13a2)), (m22, .inl (k 0, 600, .inl f22)), (m16, .inl (k 0, 5, .inl (upd L13a4 4 x_219))), (m18, .inl (k 0, 250, .inl L13a6)), (m17, .inl (k 0, 30, .inl o_188)), (mo, .inr (12, [.int 0, .ref m1, .ref m2, .ref m3, .ref m4, .ref m5, .int v6, .int o_207, .int o_208, .int o_209, .int o_210, .long o_211, .int o_212, .int o_213, .int v14, .int v15, .ref m16, .ref m17, .ref m18, .ref m19, .ref m20, .ref m21, .ref m22, .ref m23, .int v24, .ref m25, .ref m26, .ref m27, .ref m28, .ref m29, .int v30, .ref m31, .ref m32, .ref m33, .int v34, .int v35, .int v36, .ref m37, .ref m38, .ref m39, .ref m40, .long v41])), (m5, .inl (k 1, 1000, .inl f5))] := hD
          rw [eg_220] at hP hD
          refine lv_goto (tgt := 13) hx hb dX12_town_86 (by decide) ?_
          exact ih_27 _ _ _ _ (by rw [en_28]; exact mz_lt (by omega) (by omega) (by omega) (by omega) (by omega) (by omega)) ⟨L13a0, L13a1, L13a2, g_220, o_188, L13a6, o_207, o_208, o_209, o_210, o_211, o_212, o_213, rfl, L13a0h0, L13a0h1, L13a1h0, L13a2h0, L13a2h1, hw_190, hw_191, hw_192, hw_193, hw_194, hw_195, L13a6h0, L13a6h1, L13a6h2, L13a6h3, (show 0 ≤ o_207.toInt ∧ o_207.toInt ≤ 1000 from by omega), (show o_207.toInt ≤ v6.toInt from by omega), (show 0 ≤ o_207.toInt from by omega), tk_197, hP.sub (ws' := [(m19, .inl (k 0, 40, .inl L13a0)), (m20, .inl (k 0, 120, .inl L13a1)), (m21, .inl (k 0, 20, .inl L13a2)), (m22, .inl (k 0, 600, .inl f22)), (m16, .inl (k 0, 5, .inl g_220)), (m17, .inl (k 0, 30, .inl o_188)), (m18, .inl (k 0, 250, .inl L13a6)), (mo, .inr (12, [.int 0, .ref m1, .ref m2, .ref m3, .ref m4, .ref m5, .int v6, .int o_207, .int o_208, .int o_209, .int o_210, .long o_211, .int o_212, .int o_213, .int v14, .int v15, .ref m16, .ref m17, .ref m18, .ref m19, .ref m20, .ref m21, .ref m22, .ref m23, .int v24, .ref m25, .ref m26, .ref m27, .ref m28, .ref m29, .int v30, .ref m31, .ref m32, .ref m33, .int v34, .int v35, .int v36, .ref m37, .ref m38, .ref m39, .ref m40, .long v41])), (m5, .inl (k 1, 1000, .inl f5))]) [0, 1, 2, 3, 4, 6, 5, 7, 8] rfl, hD.sub (ws' := [(m19, .inl (k 0, 40, .inl L13a0)), (m20, .inl (k 0, 120, .inl L13a1)), (m21, .inl (k 0, 20, .inl L13a2)), (m22, .inl (k 0, 600, .inl f22)), (m16, .inl (k 0, 5, .inl g_220)), (m17, .inl (k 0, 30, .inl o_188)), (m18, .inl (k 0, 250, .inl L13a6)), (mo, .inr (12, [.int 0, .ref m1, .ref m2, .ref m3, .ref m4, .ref m5, .int v6, .int o_207, .int o_208, .int o_209, .int o_210, .long o_211, .int o_212, .int o_213, .int v14, .int v15, .ref m16, .ref m17, .ref m18, .ref m19, .ref m20, .ref m21, .ref m22, .ref m23, .int v24, .ref m25, .ref m26, .ref m27, .ref m28, .ref m29, .int v30, .ref m31, .ref m32, .ref m33, .int v34, .int v35, .int v36, .ref m37, .ref m38, .ref m39, .ref m40, .long v41])), (m5, .inl (k 1, 1000, .inl f5))]) [0, 1, 2, 3, 4, 6, 5, 7, 8] (by decide) rfl, hS, lv_sub hl [0] rfl⟩
set_option maxHeartbeats 4000000 in
set_option maxRecDepth 100000 in
theorem c_X12_isTown (l : Launch) (D : va_G) (k : Nat → ClassId) (mo : Nat) (v0 : Int32) (m1 : Nat) (m2 : Nat) (m3 : Nat) (m4 : Nat) (m5 : Nat) (v6 : Int32) (v7 : Int32) (v8 : Int32) (v9 : Int32) (v10 : Int32) (v11 : Int64) (v12 : Int32) (v13 : Int32) (v14 : Int32) (v15 : Int32) (m16 : Nat) (m17 : Nat) (m18 : Nat) (m19 : Nat) (m20 : Nat) (m21 : Nat) (m22 : Nat) (m23 : Nat) (v24 : Int32) (m25 : Nat) (m26 : Nat) (m27 : Nat) (m28 : Nat) (m29 : Nat) (v30 : Int32) (m31 : Nat) (m32 : Nat) (m33 : Nat) (v34 : Int32) (v35 : Int32) (v36 : Int32) (m37 : Nat) (m38 : Nat) (m39 : Nat) (m40 : Nat) (v41 : Int64) (f16 : Nat → Int32) (sz : Nat) (h_v6 : 0 ≤ v6.toInt ∧ v6.toInt ≤ 1000) (h_v24 : 0 ≤ v24.toInt ∧ v24.toInt ≤ 1023) : Met l yX12_isTown (ww yX12_isTown cX12_isTown 1 (some .boolean)) ({ frames := 0, cells := 0, slots := 0, locals := 0 }) (Pre0 D k [(mo, .inr (12, [.int v0, .ref m1, .ref m2, .ref m3, .ref m4, .ref m5, .int v6, .int v7, .int v8, .int v9, .int v10, .long v11, .int v12, .int v13, .int v14, .int v15, .ref m16, .ref m17, .ref m18, .ref m19, .ref m20, .ref m21, .ref m22, .ref m23, .int v24, .ref m25, .ref m26, .ref m27, .ref m28, .ref m29, .int v30, .ref m31, .ref m32, .ref m33, .int v34, .int v35, .int v36, .ref m37, .ref m38, .ref m39, .ref m40, .long v41])), (m16, .inl (k 0, 5, .inl f16))] sz [.ref mo]) (va_Qi (fun (r : Int32) (_ : Unit) => (0 ≤ r.toInt ∧ r.toInt ≤ 1)) (fun (_ : Unit) tZ => Bw D k (va_A [(mo, .inr (12, [.int v0, .ref m1, .ref m2, .ref m3, .ref m4, .ref m5, .int v6, .int v7, .int v8, .int v9, .int v10, .long v11, .int v12, .int v13, .int v14, .int v15, .ref m16, .ref m17, .ref m18, .ref m19, .ref m20, .ref m21, .ref m22, .ref m23, .int v24, .ref m25, .ref m26, .ref m27, .ref m28, .ref m29, .int v30, .ref m31, .ref m32, .ref m33, .int v34, .int v35, .int v36, .ref m37, .ref m38, .ref m39, .ref m40, .long v41])), (m16, .inl (k 0, 5, .inl f16))] sz) [(mo, .inr (12, [.int v0, .ref m1, .ref m2, .ref m3, .ref m4, .ref m5, .int v6, .int v7, .int v8, .int v9, .int v10, .long v11, .int v12, .int v13, .int v14, .int v15, .ref m16, .ref m17, .ref m18, .ref m19, .ref m20, .ref m21, .ref m22, .ref m23, .int v24, .ref m25, .ref m26, .ref m27, .ref m28, .ref m29, .int v30, .ref m31, .ref m32, .ref m33, .int v34, .int v35, .int v36, .ref m37, .ref m38, .ref m39, .ref m40, .long v41])), (m16, .inl (k 0, 5, .inl f16))] tZ) (va_A [(mo, .inr (12, [.int v0, .ref m1, .ref m2, .ref m3, .ref m4, .ref m5, .int v6, .int v7, .int v8, .int v9, .int v10, .long v11, .int v12, .int v13, .int v14, .int v15, .ref m16, .ref m17, .ref m18, .ref m19, .ref m20, .ref m21, .ref m22, .ref m23, .int v24, .ref m25, .ref m26, .ref m27, .ref m28, .ref m29, .int v30, .ref m31, .ref m32, .ref m33, .int v34, .int v35, .int v36, .ref m37, .ref m38, .ref m39, .ref m40, .long v41])), (m16, .inl (k 0, 5, .inl f16))] sz)) 0 0 (va_A [(mo, .inr (12, [.int v0, .ref m1, .ref m2, .ref m3, .ref m4, .ref m5, .int v6, .int v7, .int v8, .int v9, .int v10, .long v11, .int v12, .int v13, .int v14, .int v15, .ref m16, .ref m17, .ref m18, .ref m19, .ref m20, .ref m21, .ref m22, .ref m23, .int v24, .ref m25, .ref m26, .ref m27, .ref m28, .ref m29, .int v30, .ref m31, .ref m32, .ref m33, .int v34, .int v35, .int v36, .ref m37, .ref m38, .ref m39, .ref m40, .long v41])), (m16, .inl (k 0, 5, .inl f16))] sz) := by
  refine Met.ofW (cc := cX12_isTown) (maxL := 1) (ret := (some .boolean)) (by decide +kernel) rfl ?_
  intro p e s m args below meth c s₁ B hml hv
  obtain ⟨rfl, hsz, hP, hK, hD0, hN⟩ := hv
  have hx := B.exec
  have hb := B.bytes
  have hr := B.returns
  have hts : ∀ w ∈ TT, w.before _ s = true := fun w h => atoms_spec (ws := ww yX12_isTown cX12_isTown 1 (some .boolean)) B.pre w (List.mem_cons_of_mem _ h)
  have hown : s.vm.findClass RX12 = some m.cls := findClass_of_methodNamed B.named
  have hlocks := B.notSynchronized
  subst hsz
  have hD := hD0.self (sz := s.heap.size)
  generalize hAe : va_A [(mo, .inr (12, [.int v0, .ref m1, .ref m2, .ref m3, .ref m4, .ref m5, .int v6, .int v7, .int v8, .int v9, .int v10, .long v11, .int v12, .int v13, .int v14, .int v15, .ref m16, .ref m17, .ref m18, .ref m19, .ref m20, .ref m21, .ref m22, .ref m23, .int v24, .ref m25, .ref m26, .ref m27, .ref m28, .ref m29, .int v30, .ref m31, .ref m32, .ref m33, .int v34, .int v35, .int v36, .ref m37, .ref m38, .ref m39, .ref m40, .long v41])), (m16, .inl (k 0, 5, .inl f16))] s.heap.size = A at hD ⊢
  have hA : ∀ q : Nat, s.heap.size ≤ q → A q := fun q h => by rw [← hAe]; exact Or.inr h
  have hS : va_S A s.heap s.heap [] := va_S.rf
  have hl := lv_entry ([.ref mo]) (n := 1) (Nat.le_of_ble_eq_true rfl)
  rw [lg_entry_eq]
  generalize (lg_sl ([.ref mo]) ++ List.replicate (1 - (lg_sl ([.ref mo])).length) Slot.unset).toArray = ls at hl ⊢
  have hl : lv_has ls 1 [(0, .ref mo)] := hl
  refine lv_aload_n hx hb dX12_isTown_0 rfl (lv_at hl 0 rfl) ?_
  refine va_get (D := D) (ci := 12) (v := .ref m16) (C := RX12) (T := TX12) (N := 42) hx hb hts iT_X12 hown hK hP 0 rfl rfl 16 (by decide) (hts _ tw_6_69) (fun _ h9 => h9) rfl dX12_isTown_1 ?_
  refine lv_iconst (v := 0) hx hb dX12_isTown_4 (by decide) ?_
  refine va_iald hx hb hK hP 1 0 rfl rfl (z_in (by decide) (by decide)) dX12_isTown_5 ?_
  refine lv_topi (fun x_1 ex_1 => ?_)
  refine lv_if_le (tgt := 13) hx hb dX12_isTown_6 (by decide) (fun h_2 => ?_) (fun h_2 => ?_)
  · skip
    have zh_2 : x_1.toInt ≤ 0 := z_le h_2
    refine lv_iconst (v := 0) hx hb dX12_isTown_13 (by decide) ?_
    have hP9 := hP.sub (ws' := [(mo, .inr (12, [.int v0, .ref m1, .ref m2, .ref m3, .ref m4, .ref m5, .int v6, .int v7, .int v8, .int v9, .int v10, .long v11, .int v12, .int v13, .int v14, .int v15, .ref m16, .ref m17, .ref m18, .ref m19, .ref m20, .ref m21, .ref m22, .ref m23, .int v24, .ref m25, .ref m26, .ref m27, .ref m28, .ref m29, .int v30, .ref m31, .ref m32, .ref m33, .int v34, .int v35, .int v36, .ref m37, .ref m38, .ref m39, .ref m40, .long v41])), (m16, .inl (k 0, 5, .inl f16))]) [0, 1] rfl
    have hD9 := hD.sub (ws' := [(mo, .inr (12, [.int v0, .ref m1, .ref m2, .ref m3, .ref m4, .ref m5, .int v6, .int v7, .int v8, .int v9, .int v10, .long v11, .int v12, .int v13, .int v14, .int v15, .ref m16, .ref m17, .ref m18, .ref m19, .ref m20, .ref m21, .ref m22, .ref m23, .int v24, .ref m25, .ref m26, .ref m27, .ref m28, .ref m29, .int v30, .ref m31, .ref m32, .ref m33, .int v34, .int v35, .int v36, .ref m37, .ref m38, .ref m39, .ref m40, .long v41])), (m16, .inl (k 0, 5, .inl f16))]) [0, 1] (by decide) rfl
    exact W.zret (v := 0) hx hb hr (by decide) (fun tZ ht hW => ⟨⟨0, (), rfl, (show 0 ≤ 0 ∧ 0 ≤ 1 from by omega), by rw [ht]; exact hP9, va_K.moved hW.alike hK, hD9⟩, hS.F ht⟩) hS.2.2 dX12_isTown_14
  · skip
    have zh_2 : 0 < x_1.toInt := z_nle h_2
    refine lv_iconst (v := 1) hx hb dX12_isTown_9 (by decide) ?_
    refine lv_goto (tgt := 14) hx hb dX12_isTown_10 (by decide) ?_
    have hP9 := hP.sub (ws' := [(mo, .inr (12, [.int v0, .ref m1, .ref m2, .ref m3, .ref m4, .ref m5, .int v6, .int v7, .int v8, .int v9, .int v10, .long v11, .int v12, .int v13, .int v14, .int v15, .ref m16, .ref m17, .ref m18, .ref m19, .ref m20, .ref m21, .ref m22, .ref m23, .int v24, .ref m25, .ref m26, .ref m27, .ref m28, .ref m29, .int v30, .ref m31, .ref m32, .ref m33, .int v34, .int v35, .int v36, .ref m37, .ref m38, .ref m39, .ref m40, .long v41])), (m16, .inl (k 0, 5, .inl f16))]) [0, 1] rfl
    have hD9 := hD.sub (ws' := [(mo, .inr (12, [.int v0, .ref m1, .ref m2, .ref m3, .ref m4, .ref m5, .int v6, .int v7, .int v8, .int v9, .int v10, .long v11, .int v12, .int v13, .int v14, .int v15, .ref m16, .ref m17, .ref m18, .ref m19, .ref m20, .ref m21, .ref m22, .ref m23, .int v24, .ref m25, .ref m26, .ref m27, .ref m28, .ref m29, .int v30, .ref m31, .ref m32, .ref m33, .int v34, .int v35, .int v36, .ref m37, .ref m38, .ref m39, .ref m40, .long v41])), (m16, .inl (k 0, 5, .inl f16))]) [0, 1] (by decide) rfl
    exact W.zret (v := 1) hx hb hr (by decide) (fun tZ ht hW => ⟨⟨1, (), rfl, (show 0 ≤ 1 ∧ 1 ≤ 1 from by omega), by rw [ht]; exact hP9, va_K.moved hW.alike hK, hD9⟩, hS.F ht⟩) hS.2.2 dX12_isTown_14
set_option maxHeartbeats 4000000 in
set_option maxRecDepth 100000 in
theorem c_X12_isStreet (l : Launch) (D : va_G) (k : Nat → ClassId) (mo : Nat) (p0 : Int64) (v0 : Int32) (m1 : Nat) (m2 : Nat) (m3 : Nat) (m4 : Nat) (m5 : Nat) (v6 : Int32) (v7 : Int32) (v8 : Int32) (v9 : Int32) (v10 : Int32) (v11 : Int64) (v12 : Int32) (v13 : Int32) (v14 : Int32) (v15 : Int32) (m16 : Nat) (m17 : Nat) (m18 : Nat) (m19 : Nat) (m20 : Nat) (m21 : Nat) (m22 : Nat) (m23 : Nat) (v24 : Int32) (m25 : Nat) (m26 : Nat) (m27 : Nat) (m28 : Nat) (m29 : Nat) (v30 : Int32) (m31 : Nat) (m32 : Nat) (m33 : Nat) (v34 : Int32) (v35 : Int32) (v36 : Int32) (m37 : Nat) (m38 : Nat) (m39 : Nat) (m40 : Nat) (v41 : Int64) (f17 : Nat → Int32) (sz : Nat) (h_v6 : 0 ≤ v6.toInt ∧ v6.toInt ≤ 1000) (h_v24 : 0 ≤ v24.toInt ∧ v24.toInt ≤ 1023) (hp_f17_0 : PR 30 6 0 0 8 f17) (hp_f17_1 : PR 30 6 1 0 10 f17) (hp_f17_2 : PR 30 6 2 0 4 f17) (hp_f17_3 : PR 30 6 3 0 6 f17) (hp_f17_4 : PR 30 6 4 0 2 f17) (hp_f17_5 : PR 30 6 5 0 40 f17) : Met l yX12_isStreet (ww yX12_isStreet cX12_isStreet 3 (some .boolean)) ({ frames := 1, cells := 0, slots := 0, locals := 25 }) (Pre0 D k [(mo, .inr (12, [.int v0, .ref m1, .ref m2, .ref m3, .ref m4, .ref m5, .int v6, .int v7, .int v8, .int v9, .int v10, .long v11, .int v12, .int v13, .int v14, .int v15, .ref m16, .ref m17, .ref m18, .ref m19, .ref m20, .ref m21, .ref m22, .ref m23, .int v24, .ref m25, .ref m26, .ref m27, .ref m28, .ref m29, .int v30, .ref m31, .ref m32, .ref m33, .int v34, .int v35, .int v36, .ref m37, .ref m38, .ref m39, .ref m40, .long v41])), (m17, .inl (k 0, 30, .inl f17))] sz [.ref mo, .long p0]) (va_Qi (fun (r : Int32) (_ : Unit) => (0 ≤ r.toInt ∧ r.toInt ≤ 1) ∧ ((r.toInt = 1 ∧ 0 ≤ p0.toInt ∧ p0.toInt ≤ 7) ∨ r.toInt = 0)) (fun (_ : Unit) tZ => Bw D k (va_A [(mo, .inr (12, [.int v0, .ref m1, .ref m2, .ref m3, .ref m4, .ref m5, .int v6, .int v7, .int v8, .int v9, .int v10, .long v11, .int v12, .int v13, .int v14, .int v15, .ref m16, .ref m17, .ref m18, .ref m19, .ref m20, .ref m21, .ref m22, .ref m23, .int v24, .ref m25, .ref m26, .ref m27, .ref m28, .ref m29, .int v30, .ref m31, .ref m32, .ref m33, .int v34, .int v35, .int v36, .ref m37, .ref m38, .ref m39, .ref m40, .long v41])), (m17, .inl (k 0, 30, .inl f17))] sz) [(mo, .inr (12, [.int v0, .ref m1, .ref m2, .ref m3, .ref m4, .ref m5, .int v6, .int v7, .int v8, .int v9, .int v10, .long v11, .int v12, .int v13, .int v14, .int v15, .ref m16, .ref m17, .ref m18, .ref m19, .ref m20, .ref m21, .ref m22, .ref m23, .int v24, .ref m25, .ref m26, .ref m27, .ref m28, .ref m29, .int v30, .ref m31, .ref m32, .ref m33, .int v34, .int v35, .int v36, .ref m37, .ref m38, .ref m39, .ref m40, .long v41])), (m17, .inl (k 0, 30, .inl f17))] tZ) (va_A [(mo, .inr (12, [.int v0, .ref m1, .ref m2, .ref m3, .ref m4, .ref m5, .int v6, .int v7, .int v8, .int v9, .int v10, .long v11, .int v12, .int v13, .int v14, .int v15, .ref m16, .ref m17, .ref m18, .ref m19, .ref m20, .ref m21, .ref m22, .ref m23, .int v24, .ref m25, .ref m26, .ref m27, .ref m28, .ref m29, .int v30, .ref m31, .ref m32, .ref m33, .int v34, .int v35, .int v36, .ref m37, .ref m38, .ref m39, .ref m40, .long v41])), (m17, .inl (k 0, 30, .inl f17))] sz)) 0 0 (va_A [(mo, .inr (12, [.int v0, .ref m1, .ref m2, .ref m3, .ref m4, .ref m5, .int v6, .int v7, .int v8, .int v9, .int v10, .long v11, .int v12, .int v13, .int v14, .int v15, .ref m16, .ref m17, .ref m18, .ref m19, .ref m20, .ref m21, .ref m22, .ref m23, .int v24, .ref m25, .ref m26, .ref m27, .ref m28, .ref m29, .int v30, .ref m31, .ref m32, .ref m33, .int v34, .int v35, .int v36, .ref m37, .ref m38, .ref m39, .ref m40, .long v41])), (m17, .inl (k 0, 30, .inl f17))] sz) := by
  refine Met.ofW (cc := cX12_isStreet) (maxL := 3) (ret := (some .boolean)) (by decide +kernel) rfl ?_
  intro p e s m args below meth c s₁ B hml hv
  obtain ⟨rfl, hsz, hP, hK, hD0, hN⟩ := hv
  have hx := B.exec
  have hb := B.bytes
  have hr := B.returns
  have hts : ∀ w ∈ TT, w.before _ s = true := fun w h => atoms_spec (ws := ww yX12_isStreet cX12_isStreet 3 (some .boolean)) B.pre w (List.mem_cons_of_mem _ h)
  have hown : s.vm.findClass RX12 = some m.cls := findClass_of_methodNamed B.named
  have hlocks := B.notSynchronized
  subst hsz
  have hD := hD0.self (sz := s.heap.size)
  generalize hAe : va_A [(mo, .inr (12, [.int v0, .ref m1, .ref m2, .ref m3, .ref m4, .ref m5, .int v6, .int v7, .int v8, .int v9, .int v10, .long v11, .int v12, .int v13, .int v14, .int v15, .ref m16, .ref m17, .ref m18, .ref m19, .ref m20, .ref m21, .ref m22, .ref m23, .int v24, .ref m25, .ref m26, .ref m27, .ref m28, .ref m29, .int v30, .ref m31, .ref m32, .ref m33, .int v34, .int v35, .int v36, .ref m37, .ref m38, .ref m39, .ref m40, .long v41])), (m17, .inl (k 0, 30, .inl f17))] s.heap.size = A at hD ⊢
  have hA : ∀ q : Nat, s.heap.size ≤ q → A q := fun q h => by rw [← hAe]; exact Or.inr h
  have hS : va_S A s.heap s.heap [] := va_S.rf
  have hl := lv_entry ([.ref mo, .long p0]) (n := 3) (Nat.le_of_ble_eq_true rfl)
  rw [lg_entry_eq]
  generalize (lg_sl ([.ref mo, .long p0]) ++ List.replicate (3 - (lg_sl ([.ref mo, .long p0])).length) Slot.unset).toArray = ls at hl ⊢
  have hl : lv_has ls 3 [(0, .ref mo), (1, .long p0)] := hl
  refine lv_lload_n hx hb dX12_isStreet_0 rfl (lv_at hl 1 rfl) ?_
  refine lv_lconst (v := 0) hx hb dX12_isStreet_1 (by decide) ?_
  refine lv_aload_n hx hb dX12_isStreet_2 rfl (lv_at hl 0 rfl) ?_
  refine va_get (D := D) (ci := 12) (v := .ref m17) (C := RX12) (T := TX12) (N := 42) hx hb hts iT_X12 hown hK hP 0 rfl rfl 17 (by decide) (hts _ tw_6_70) (fun _ h9 => h9) rfl dX12_isStreet_3 ?_
  refine lv_iconst (v := 0) hx hb dX12_isStreet_6 (by decide) ?_
  refine va_iald hx hb hK hP 1 0 rfl rfl (z_in (by decide) (by decide)) dX12_isStreet_7 ?_
  refine lv_topi (fun x_1 ex_1 => ?_)
  have zx_1r0 : 0 ≤ x_1.toInt ∧ x_1.toInt ≤ 8 := by rw [ex_1]; exact PR.ld hp_f17_0 (by decide) (by decide) (by decide)
  refine lv_i2l (v := x_1.toInt64) hx hb dX12_isStreet_8 rfl ?_
  refine lv_lconst (v := 1) hx hb dX12_isStreet_9 (by decide) ?_
  refine lv_lsub hx hb dX12_isStreet_10 ?_
  refine lv_topl (fun x_2 ex_2 => ?_)
  have zx_2 : x_2.toInt = x_1.toInt - 1 := by rw [ex_2]; exact zl_sub (Int32.toInt_toInt64 _) rfl (by omega) (by omega)
  have hPc := hP.sub (ws' := []) [] rfl
  have hDc := hD.sub (ws' := []) [] (by decide) rfl
  have hFc := va_free (wc := []) hD hS hA [] rfl
  refine va_calli (va_runS (As := [.long p0, .long 0, .long x_2]) (rest := []) ⟨hx, hb, hml, hown, hts⟩ (c_X12_in l D k p0 0 x_2 s.heap.size) (va_cwS 3 hts (gS tw_6_188 tw_6_189 tw_1_13 tw_6_190) rfl rfl rfl hdS_X12_in ⟨Nat.le_of_ble_eq_true rfl, Nat.le_of_ble_eq_true rfl⟩) (cz_S hK hPc hDc hN [.long p0, .long 0, .long x_2]) rfl rfl hl.1 rfl (lv_room (Nat.le_of_ble_eq_true rfl)) dX12_isStreet_11 ⟨Nat.le_of_ble_eq_true rfl, Nat.le_of_ble_eq_true rfl⟩) hS (fun q _ h => hFc q h) hFc (fun r_3 uZ tZ H1 locs ht hvm hw hB hz1 hk1 hS => ?_)
  obtain ⟨hP1, hK1, hD1⟩ := hB
  rw [ht] at hP1
  obtain ⟨hP, hD⟩ := va_join (wr := [(mo, .inr (12, [.int v0, .ref m1, .ref m2, .ref m3, .ref m4, .ref m5, .int v6, .int v7, .int v8, .int v9, .int v10, .long v11, .int v12, .int v13, .int v14, .int v15, .ref m16, .ref m17, .ref m18, .ref m19, .ref m20, .ref m21, .ref m22, .ref m23, .int v24, .ref m25, .ref m26, .ref m27, .ref m28, .ref m29, .int v30, .ref m31, .ref m32, .ref m33, .int v34, .int v35, .int v36, .ref m37, .ref m38, .ref m39, .ref m40, .long v41])), (m17, .inl (k 0, 30, .inl f17))]) (w1 := []) hP hD [] [0, 1] rfl rfl (by decide) (by decide) hk1 hFc hP1 hD1
  clear hK1 hP1 hD1 hPc hDc hFc
  clear hk1 hz1 ht hvm
  have hP : va_P D vwCl [(mo, .inr (12, [.int v0, .ref m1, .ref m2, .ref m3, .ref m4, .ref m5, .int v6, .int v7, .int v8, .int v9, .int v10, .long v11, .int v12, .int v13, .int v14, .int v15, .ref m16, .ref m17, .ref m18, .ref m19, .ref m20, .ref m21, .ref m22, .ref m23, .int v24, .ref m25, .ref m26, .ref m27, .ref m28, .ref m29, .int v30, .ref m31, .ref m32, .ref m33, .int v34, .int v35, .int v36, .ref m37, .ref m38, .ref m39, .ref m40, .long v41])), (m17, .inl (k 0, 30, .inl f17))] H1 := hP
  have hD : va_D A [(mo, .inr (12, [.int v0, .ref m1, .ref m2, .ref m3, .ref m4, .ref m5, .int v6, .int v7, .int v8, .int v9, .int v10, .long v11, .int v12, .int v13, .int v14, .int v15, .ref m16, .ref m17, .ref m18, .ref m19, .ref m20, .ref m21, .ref m22, .ref m23, .int v24, .ref m25, .ref m26, .ref m27, .ref m28, .ref m29, .int v30, .ref m31, .ref m32, .ref m33, .int v34, .int v35, .int v36, .ref m37, .ref m38, .ref m39, .ref m40, .long v41])), (m17, .inl (k 0, 30, .inl f17))] := hD
  generalize H1 = H at hP hS ⊢
  have hw_4 : (0 ≤ r_3.toInt ∧ r_3.toInt ≤ 1) ∧ ((r_3.toInt = 1 ∧ 0 ≤ p0.toInt ∧ p0.toInt ≤ x_2.toInt) ∨ (r_3.toInt = 0 ∧ (p0.toInt < 0 ∨ x_2.toInt < p0.toInt))) := hw
  obtain ⟨hw_5, hw_6⟩ := hw_4
  clear hw
  have hP9 := hP.sub (ws' := [(mo, .inr (12, [.int v0, .ref m1, .ref m2, .ref m3, .ref m4, .ref m5, .int v6, .int v7, .int v8, .int v9, .int v10, .long v11, .int v12, .int v13, .int v14, .int v15, .ref m16, .ref m17, .ref m18, .ref m19, .ref m20, .ref m21, .ref m22, .ref m23, .int v24, .ref m25, .ref m26, .ref m27, .ref m28, .ref m29, .int v30, .ref m31, .ref m32, .ref m33, .int v34, .int v35, .int v36, .ref m37, .ref m38, .ref m39, .ref m40, .long v41])), (m17, .inl (k 0, 30, .inl f17))]) [0, 1] rfl
  have hD9 := hD.sub (ws' := [(mo, .inr (12, [.int v0, .ref m1, .ref m2, .ref m3, .ref m4, .ref m5, .int v6, .int v7, .int v8, .int v9, .int v10, .long v11, .int v12, .int v13, .int v14, .int v15, .ref m16, .ref m17, .ref m18, .ref m19, .ref m20, .ref m21, .ref m22, .ref m23, .int v24, .ref m25, .ref m26, .ref m27, .ref m28, .ref m29, .int v30, .ref m31, .ref m32, .ref m33, .int v34, .int v35, .int v36, .ref m37, .ref m38, .ref m39, .ref m40, .long v41])), (m17, .inl (k 0, 30, .inl f17))]) [0, 1] (by decide) rfl
  exact W.zret (v := r_3) hx hb hr (z_nar (by omega)) (fun tZ ht hW => ⟨⟨r_3, (), rfl, ⟨(show 0 ≤ r_3.toInt ∧ r_3.toInt ≤ 1 from by omega), (show (r_3.toInt = 1 ∧ 0 ≤ p0.toInt ∧ p0.toInt ≤ 7) ∨ r_3.toInt = 0 from by omega)⟩, by rw [ht]; exact hP9, va_K.moved hW.alike hK, hD9⟩, hS.F ht⟩) hS.2.2 dX12_isStreet_14
set_option maxHeartbeats 4000000 in
set_option maxRecDepth 100000 in
theorem c_X12_isLane (l : Launch) (D : va_G) (k : Nat → ClassId) (mo : Nat) (p0 : Int32) (v0 : Int32) (m1 : Nat) (m2 : Nat) (m3 : Nat) (m4 : Nat) (m5 : Nat) (v6 : Int32) (v7 : Int32) (v8 : Int32) (v9 : Int32) (v10 : Int32) (v11 : Int64) (v12 : Int32) (v13 : Int32) (v14 : Int32) (v15 : Int32) (m16 : Nat) (m17 : Nat) (m18 : Nat) (m19 : Nat) (m20 : Nat) (m21 : Nat) (m22 : Nat) (m23 : Nat) (v24 : Int32) (m25 : Nat) (m26 : Nat) (m27 : Nat) (m28 : Nat) (m29 : Nat) (v30 : Int32) (m31 : Nat) (m32 : Nat) (m33 : Nat) (v34 : Int32) (v35 : Int32) (v36 : Int32) (m37 : Nat) (m38 : Nat) (m39 : Nat) (m40 : Nat) (v41 : Int64) (f17 : Nat → Int32) (sz : Nat) (h_v6 : 0 ≤ v6.toInt ∧ v6.toInt ≤ 1000) (h_v24 : 0 ≤ v24.toInt ∧ v24.toInt ≤ 1023) (hp_f17_0 : PR 30 6 0 0 8 f17) (hp_f17_1 : PR 30 6 1 0 10 f17) (hp_f17_2 : PR 30 6 2 0 4 f17) (hp_f17_3 : PR 30 6 3 0 6 f17) (hp_f17_4 : PR 30 6 4 0 2 f17) (hp_f17_5 : PR 30 6 5 0 40 f17) : Met l yX12_isLane (ww yX12_isLane cX12_isLane 2 (some .boolean)) ({ frames := 1, cells := 0, slots := 0, locals := 25 }) (Pre0 D k [(mo, .inr (12, [.int v0, .ref m1, .ref m2, .ref m3, .ref m4, .ref m5, .int v6, .int v7, .int v8, .int v9, .int v10, .long v11, .int v12, .int v13, .int v14, .int v15, .ref m16, .ref m17, .ref m18, .ref m19, .ref m20, .ref m21, .ref m22, .ref m23, .int v24, .ref m25, .ref m26, .ref m27, .ref m28, .ref m29, .int v30, .ref m31, .ref m32, .ref m33, .int v34, .int v35, .int v36, .ref m37, .ref m38, .ref m39, .ref m40, .long v41])), (m17, .inl (k 0, 30, .inl f17))] sz [.ref mo, .int p0]) (va_Qi (fun (r : Int32) (_ : Unit) => (0 ≤ r.toInt ∧ r.toInt ≤ 1) ∧ ((r.toInt = 1 ∧ 0 ≤ p0.toInt ∧ p0.toInt ≤ 9) ∨ r.toInt = 0)) (fun (_ : Unit) tZ => Bw D k (va_A [(mo, .inr (12, [.int v0, .ref m1, .ref m2, .ref m3, .ref m4, .ref m5, .int v6, .int v7, .int v8, .int v9, .int v10, .long v11, .int v12, .int v13, .int v14, .int v15, .ref m16, .ref m17, .ref m18, .ref m19, .ref m20, .ref m21, .ref m22, .ref m23, .int v24, .ref m25, .ref m26, .ref m27, .ref m28, .ref m29, .int v30, .ref m31, .ref m32, .ref m33, .int v34, .int v35, .int v36, .ref m37, .ref m38, .ref m39, .ref m40, .long v41])), (m17, .inl (k 0, 30, .inl f17))] sz) [(mo, .inr (12, [.int v0, .ref m1, .ref m2, .ref m3, .ref m4, .ref m5, .int v6, .int v7, .int v8, .int v9, .int v10, .long v11, .int v12, .int v13, .int v14, .int v15, .ref m16, .ref m17, .ref m18, .ref m19, .ref m20, .ref m21, .ref m22, .ref m23, .int v24, .ref m25, .ref m26, .ref m27, .ref m28, .ref m29, .int v30, .ref m31, .ref m32, .ref m33, .int v34, .int v35, .int v36, .ref m37, .ref m38, .ref m39, .ref m40, .long v41])), (m17, .inl (k 0, 30, .inl f17))] tZ) (va_A [(mo, .inr (12, [.int v0, .ref m1, .ref m2, .ref m3, .ref m4, .ref m5, .int v6, .int v7, .int v8, .int v9, .int v10, .long v11, .int v12, .int v13, .int v14, .int v15, .ref m16, .ref m17, .ref m18, .ref m19, .ref m20, .ref m21, .ref m22, .ref m23, .int v24, .ref m25, .ref m26, .ref m27, .ref m28, .ref m29, .int v30, .ref m31, .ref m32, .ref m33, .int v34, .int v35, .int v36, .ref m37, .ref m38, .ref m39, .ref m40, .long v41])), (m17, .inl (k 0, 30, .inl f17))] sz)) 0 0 (va_A [(mo, .inr (12, [.int v0, .ref m1, .ref m2, .ref m3, .ref m4, .ref m5, .int v6, .int v7, .int v8, .int v9, .int v10, .long v11, .int v12, .int v13, .int v14, .int v15, .ref m16, .ref m17, .ref m18, .ref m19, .ref m20, .ref m21, .ref m22, .ref m23, .int v24, .ref m25, .ref m26, .ref m27, .ref m28, .ref m29, .int v30, .ref m31, .ref m32, .ref m33, .int v34, .int v35, .int v36, .ref m37, .ref m38, .ref m39, .ref m40, .long v41])), (m17, .inl (k 0, 30, .inl f17))] sz) := by
  refine Met.ofW (cc := cX12_isLane) (maxL := 2) (ret := (some .boolean)) (by decide +kernel) rfl ?_
  intro p e s m args below meth c s₁ B hml hv
  obtain ⟨rfl, hsz, hP, hK, hD0, hN⟩ := hv
  have hx := B.exec
  have hb := B.bytes
  have hr := B.returns
  have hts : ∀ w ∈ TT, w.before _ s = true := fun w h => atoms_spec (ws := ww yX12_isLane cX12_isLane 2 (some .boolean)) B.pre w (List.mem_cons_of_mem _ h)
  have hown : s.vm.findClass RX12 = some m.cls := findClass_of_methodNamed B.named
  have hlocks := B.notSynchronized
  subst hsz
  have hD := hD0.self (sz := s.heap.size)
  generalize hAe : va_A [(mo, .inr (12, [.int v0, .ref m1, .ref m2, .ref m3, .ref m4, .ref m5, .int v6, .int v7, .int v8, .int v9, .int v10, .long v11, .int v12, .int v13, .int v14, .int v15, .ref m16, .ref m17, .ref m18, .ref m19, .ref m20, .ref m21, .ref m22, .ref m23, .int v24, .ref m25, .ref m26, .ref m27, .ref m28, .ref m29, .int v30, .ref m31, .ref m32, .ref m33, .int v34, .int v35, .int v36, .ref m37, .ref m38, .ref m39, .ref m40, .long v41])), (m17, .inl (k 0, 30, .inl f17))] s.heap.size = A at hD ⊢
  have hA : ∀ q : Nat, s.heap.size ≤ q → A q := fun q h => by rw [← hAe]; exact Or.inr h
  have hS : va_S A s.heap s.heap [] := va_S.rf
  have hl := lv_entry ([.ref mo, .int p0]) (n := 2) (Nat.le_of_ble_eq_true rfl)
  rw [lg_entry_eq]
  generalize (lg_sl ([.ref mo, .int p0]) ++ List.replicate (2 - (lg_sl ([.ref mo, .int p0])).length) Slot.unset).toArray = ls at hl ⊢
  have hl : lv_has ls 2 [(0, .ref mo), (1, .int p0)] := hl
  refine lv_iload_n hx hb dX12_isLane_0 rfl (lv_at hl 1 rfl) ?_
  refine lv_i2l (v := p0.toInt64) hx hb dX12_isLane_1 rfl ?_
  refine lv_lconst (v := 0) hx hb dX12_isLane_2 (by decide) ?_
  refine lv_aload_n hx hb dX12_isLane_3 rfl (lv_at hl 0 rfl) ?_
  refine va_get (D := D) (ci := 12) (v := .ref m17) (C := RX12) (T := TX12) (N := 42) hx hb hts iT_X12 hown hK hP 0 rfl rfl 17 (by decide) (hts _ tw_6_70) (fun _ h9 => h9) rfl dX12_isLane_4 ?_
  refine lv_iconst (v := 1) hx hb dX12_isLane_7 (by decide) ?_
  refine va_iald hx hb hK hP 1 0 rfl rfl (z_in (by decide) (by decide)) dX12_isLane_8 ?_
  refine lv_topi (fun x_1 ex_1 => ?_)
  have zx_1r1 : 0 ≤ x_1.toInt ∧ x_1.toInt ≤ 10 := by rw [ex_1]; exact PR.ld hp_f17_1 (by decide) (by decide) (by decide)
  refine lv_iconst (v := 1) hx hb dX12_isLane_9 (by decide) ?_
  refine lv_isub hx hb dX12_isLane_10 ?_
  refine lv_topi (fun x_2 ex_2 => ?_)
  have zx_2 : x_2.toInt = x_1.toInt - 1 := by rw [ex_2]; exact z_sub rfl rfl (by omega) (by omega)
  refine lv_i2l (v := x_2.toInt64) hx hb dX12_isLane_11 rfl ?_
  have hPc := hP.sub (ws' := []) [] rfl
  have hDc := hD.sub (ws' := []) [] (by decide) rfl
  have hFc := va_free (wc := []) hD hS hA [] rfl
  refine va_calli (va_runS (As := [.long p0.toInt64, .long 0, .long x_2.toInt64]) (rest := []) ⟨hx, hb, hml, hown, hts⟩ (c_X12_in l D k p0.toInt64 0 x_2.toInt64 s.heap.size) (va_cwS 3 hts (gS tw_6_188 tw_6_189 tw_1_13 tw_6_190) rfl rfl rfl hdS_X12_in ⟨Nat.le_of_ble_eq_true rfl, Nat.le_of_ble_eq_true rfl⟩) (cz_S hK hPc hDc hN [.long p0.toInt64, .long 0, .long x_2.toInt64]) rfl rfl hl.1 rfl (lv_room (Nat.le_of_ble_eq_true rfl)) dX12_isLane_12 ⟨Nat.le_of_ble_eq_true rfl, Nat.le_of_ble_eq_true rfl⟩) hS (fun q _ h => hFc q h) hFc (fun r_3 uZ tZ H1 locs ht hvm hw hB hz1 hk1 hS => ?_)
  obtain ⟨hP1, hK1, hD1⟩ := hB
  rw [ht] at hP1
  obtain ⟨hP, hD⟩ := va_join (wr := [(mo, .inr (12, [.int v0, .ref m1, .ref m2, .ref m3, .ref m4, .ref m5, .int v6, .int v7, .int v8, .int v9, .int v10, .long v11, .int v12, .int v13, .int v14, .int v15, .ref m16, .ref m17, .ref m18, .ref m19, .ref m20, .ref m21, .ref m22, .ref m23, .int v24, .ref m25, .ref m26, .ref m27, .ref m28, .ref m29, .int v30, .ref m31, .ref m32, .ref m33, .int v34, .int v35, .int v36, .ref m37, .ref m38, .ref m39, .ref m40, .long v41])), (m17, .inl (k 0, 30, .inl f17))]) (w1 := []) hP hD [] [0, 1] rfl rfl (by decide) (by decide) hk1 hFc hP1 hD1
  clear hK1 hP1 hD1 hPc hDc hFc
  clear hk1 hz1 ht hvm
  have hP : va_P D vwCl [(mo, .inr (12, [.int v0, .ref m1, .ref m2, .ref m3, .ref m4, .ref m5, .int v6, .int v7, .int v8, .int v9, .int v10, .long v11, .int v12, .int v13, .int v14, .int v15, .ref m16, .ref m17, .ref m18, .ref m19, .ref m20, .ref m21, .ref m22, .ref m23, .int v24, .ref m25, .ref m26, .ref m27, .ref m28, .ref m29, .int v30, .ref m31, .ref m32, .ref m33, .int v34, .int v35, .int v36, .ref m37, .ref m38, .ref m39, .ref m40, .long v41])), (m17, .inl (k 0, 30, .inl f17))] H1 := hP
  have hD : va_D A [(mo, .inr (12, [.int v0, .ref m1, .ref m2, .ref m3, .ref m4, .ref m5, .int v6, .int v7, .int v8, .int v9, .int v10, .long v11, .int v12, .int v13, .int v14, .int v15, .ref m16, .ref m17, .ref m18, .ref m19, .ref m20, .ref m21, .ref m22, .ref m23, .int v24, .ref m25, .ref m26, .ref m27, .ref m28, .ref m29, .int v30, .ref m31, .ref m32, .ref m33, .int v34, .int v35, .int v36, .ref m37, .ref m38, .ref m39, .ref m40, .long v41])), (m17, .inl (k 0, 30, .inl f17))] := hD
  generalize H1 = H at hP hS ⊢
  have hw_4 : (0 ≤ r_3.toInt ∧ r_3.toInt ≤ 1) ∧ ((r_3.toInt = 1 ∧ 0 ≤ p0.toInt64.toInt ∧ p0.toInt64.toInt ≤ x_2.toInt64.toInt) ∨ (r_3.toInt = 0 ∧ (p0.toInt64.toInt < 0 ∨ x_2.toInt64.toInt < p0.toInt64.toInt))) := hw
  obtain ⟨hw_5, hw_6⟩ := hw_4
  clear hw
  simp only [Int32.toInt_toInt64] at hw_5 hw_6
  have hP9 := hP.sub (ws' := [(mo, .inr (12, [.int v0, .ref m1, .ref m2, .ref m3, .ref m4, .ref m5, .int v6, .int v7, .int v8, .int v9, .int v10, .long v11, .int v12, .int v13, .int v14, .int v15, .ref m16, .ref m17, .ref m18, .ref m19, .ref m20, .ref m21, .ref m22, .ref m23, .int v24, .ref m25, .ref m26, .ref m27, .ref m28, .ref m29, .int v30, .ref m31, .ref m32, .ref m33, .int v34, .int v35, .int v36, .ref m37, .ref m38, .ref m39, .ref m40, .long v41])), (m17, .inl (k 0, 30, .inl f17))]) [0, 1] rfl
  have hD9 := hD.sub (ws' := [(mo, .inr (12, [.int v0, .ref m1, .ref m2, .ref m3, .ref m4, .ref m5, .int v6, .int v7, .int v8, .int v9, .int v10, .long v11, .int v12, .int v13, .int v14, .int v15, .ref m16, .ref m17, .ref m18, .ref m19, .ref m20, .ref m21, .ref m22, .ref m23, .int v24, .ref m25, .ref m26, .ref m27, .ref m28, .ref m29, .int v30, .ref m31, .ref m32, .ref m33, .int v34, .int v35, .int v36, .ref m37, .ref m38, .ref m39, .ref m40, .long v41])), (m17, .inl (k 0, 30, .inl f17))]) [0, 1] (by decide) rfl
  exact W.zret (v := r_3) hx hb hr (z_nar (by omega)) (fun tZ ht hW => ⟨⟨r_3, (), rfl, ⟨(show 0 ≤ r_3.toInt ∧ r_3.toInt ≤ 1 from by omega), (show (r_3.toInt = 1 ∧ 0 ≤ p0.toInt ∧ p0.toInt ≤ 9) ∨ r_3.toInt = 0 from by omega)⟩, by rw [ht]; exact hP9, va_K.moved hW.alike hK, hD9⟩, hS.F ht⟩) hS.2.2 dX12_isLane_15
set_option maxHeartbeats 4000000 in
set_option maxRecDepth 100000 in
theorem c_X12_isGate (l : Launch) (D : va_G) (k : Nat → ClassId) (mo : Nat) (p0 : Int32) (v0 : Int32) (m1 : Nat) (m2 : Nat) (m3 : Nat) (m4 : Nat) (m5 : Nat) (v6 : Int32) (v7 : Int32) (v8 : Int32) (v9 : Int32) (v10 : Int32) (v11 : Int64) (v12 : Int32) (v13 : Int32) (v14 : Int32) (v15 : Int32) (m16 : Nat) (m17 : Nat) (m18 : Nat) (m19 : Nat) (m20 : Nat) (m21 : Nat) (m22 : Nat) (m23 : Nat) (v24 : Int32) (m25 : Nat) (m26 : Nat) (m27 : Nat) (m28 : Nat) (m29 : Nat) (v30 : Int32) (m31 : Nat) (m32 : Nat) (m33 : Nat) (v34 : Int32) (v35 : Int32) (v36 : Int32) (m37 : Nat) (m38 : Nat) (m39 : Nat) (m40 : Nat) (v41 : Int64) (f17 : Nat → Int32) (sz : Nat) (h_v6 : 0 ≤ v6.toInt ∧ v6.toInt ≤ 1000) (h_v24 : 0 ≤ v24.toInt ∧ v24.toInt ≤ 1023) (hp_f17_0 : PR 30 6 0 0 8 f17) (hp_f17_1 : PR 30 6 1 0 10 f17) (hp_f17_2 : PR 30 6 2 0 4 f17) (hp_f17_3 : PR 30 6 3 0 6 f17) (hp_f17_4 : PR 30 6 4 0 2 f17) (hp_f17_5 : PR 30 6 5 0 40 f17) : Met l yX12_isGate (ww yX12_isGate cX12_isGate 2 (some .boolean)) ({ frames := 1, cells := 0, slots := 0, locals := 25 }) (Pre0 D k [(mo, .inr (12, [.int v0, .ref m1, .ref m2, .ref m3, .ref m4, .ref m5, .int v6, .int v7, .int v8, .int v9, .int v10, .long v11, .int v12, .int v13, .int v14, .int v15, .ref m16, .ref m17, .ref m18, .ref m19, .ref m20, .ref m21, .ref m22, .ref m23, .int v24, .ref m25, .ref m26, .ref m27, .ref m28, .ref m29, .int v30, .ref m31, .ref m32, .ref m33, .int v34, .int v35, .int v36, .ref m37, .ref m38, .ref m39, .ref m40, .long v41])), (m17, .inl (k 0, 30, .inl f17))] sz [.ref mo, .int p0]) (va_Qi (fun (r : Int32) (_ : Unit) => (0 ≤ r.toInt ∧ r.toInt ≤ 1) ∧ ((r.toInt = 1 ∧ 0 ≤ p0.toInt ∧ p0.toInt ≤ 3) ∨ r.toInt = 0)) (fun (_ : Unit) tZ => Bw D k (va_A [(mo, .inr (12, [.int v0, .ref m1, .ref m2, .ref m3, .ref m4, .ref m5, .int v6, .int v7, .int v8, .int v9, .int v10, .long v11, .int v12, .int v13, .int v14, .int v15, .ref m16, .ref m17, .ref m18, .ref m19, .ref m20, .ref m21, .ref m22, .ref m23, .int v24, .ref m25, .ref m26, .ref m27, .ref m28, .ref m29, .int v30, .ref m31, .ref m32, .ref m33, .int v34, .int v35, .int v36, .ref m37, .ref m38, .ref m39, .ref m40, .long v41])), (m17, .inl (k 0, 30, .inl f17))] sz) [(mo, .inr (12, [.int v0, .ref m1, .ref m2, .ref m3, .ref m4, .ref m5, .int v6, .int v7, .int v8, .int v9, .int v10, .long v11, .int v12, .int v13, .int v14, .int v15, .ref m16, .ref m17, .ref m18, .ref m19, .ref m20, .ref m21, .ref m22, .ref m23, .int v24, .ref m25, .ref m26, .ref m27, .ref m28, .ref m29, .int v30, .ref m31, .ref m32, .ref m33, .int v34, .int v35, .int v36, .ref m37, .ref m38, .ref m39, .ref m40, .long v41])), (m17, .inl (k 0, 30, .inl f17))] tZ) (va_A [(mo, .inr (12, [.int v0, .ref m1, .ref m2, .ref m3, .ref m4, .ref m5, .int v6, .int v7, .int v8, .int v9, .int v10, .long v11, .int v12, .int v13, .int v14, .int v15, .ref m16, .ref m17, .ref m18, .ref m19, .ref m20, .ref m21, .ref m22, .ref m23, .int v24, .ref m25, .ref m26, .ref m27, .ref m28, .ref m29, .int v30, .ref m31, .ref m32, .ref m33, .int v34, .int v35, .int v36, .ref m37, .ref m38, .ref m39, .ref m40, .long v41])), (m17, .inl (k 0, 30, .inl f17))] sz)) 0 0 (va_A [(mo, .inr (12, [.int v0, .ref m1, .ref m2, .ref m3, .ref m4, .ref m5, .int v6, .int v7, .int v8, .int v9, .int v10, .long v11, .int v12, .int v13, .int v14, .int v15, .ref m16, .ref m17, .ref m18, .ref m19, .ref m20, .ref m21, .ref m22, .ref m23, .int v24, .ref m25, .ref m26, .ref m27, .ref m28, .ref m29, .int v30, .ref m31, .ref m32, .ref m33, .int v34, .int v35, .int v36, .ref m37, .ref m38, .ref m39, .ref m40, .long v41])), (m17, .inl (k 0, 30, .inl f17))] sz) := by
  refine Met.ofW (cc := cX12_isGate) (maxL := 2) (ret := (some .boolean)) (by decide +kernel) rfl ?_
  intro p e s m args below meth c s₁ B hml hv
  obtain ⟨rfl, hsz, hP, hK, hD0, hN⟩ := hv
  have hx := B.exec
  have hb := B.bytes
  have hr := B.returns
  have hts : ∀ w ∈ TT, w.before _ s = true := fun w h => atoms_spec (ws := ww yX12_isGate cX12_isGate 2 (some .boolean)) B.pre w (List.mem_cons_of_mem _ h)
  have hown : s.vm.findClass RX12 = some m.cls := findClass_of_methodNamed B.named
  have hlocks := B.notSynchronized
  subst hsz
  have hD := hD0.self (sz := s.heap.size)
  generalize hAe : va_A [(mo, .inr (12, [.int v0, .ref m1, .ref m2, .ref m3, .ref m4, .ref m5, .int v6, .int v7, .int v8, .int v9, .int v10, .long v11, .int v12, .int v13, .int v14, .int v15, .ref m16, .ref m17, .ref m18, .ref m19, .ref m20, .ref m21, .ref m22, .ref m23, .int v24, .ref m25, .ref m26, .ref m27, .ref m28, .ref m29, .int v30, .ref m31, .ref m32, .ref m33, .int v34, .int v35, .int v36, .ref m37, .ref m38, .ref m39, .ref m40, .long v41])), (m17, .inl (k 0, 30, .inl f17))] s.heap.size = A at hD ⊢
  have hA : ∀ q : Nat, s.heap.size ≤ q → A q := fun q h => by rw [← hAe]; exact Or.inr h
  have hS : va_S A s.heap s.heap [] := va_S.rf
  have hl := lv_entry ([.ref mo, .int p0]) (n := 2) (Nat.le_of_ble_eq_true rfl)
  rw [lg_entry_eq]
  generalize (lg_sl ([.ref mo, .int p0]) ++ List.replicate (2 - (lg_sl ([.ref mo, .int p0])).length) Slot.unset).toArray = ls at hl ⊢
  have hl : lv_has ls 2 [(0, .ref mo), (1, .int p0)] := hl
  refine lv_iload_n hx hb dX12_isGate_0 rfl (lv_at hl 1 rfl) ?_
  refine lv_i2l (v := p0.toInt64) hx hb dX12_isGate_1 rfl ?_
  refine lv_lconst (v := 0) hx hb dX12_isGate_2 (by decide) ?_
  refine lv_aload_n hx hb dX12_isGate_3 rfl (lv_at hl 0 rfl) ?_
  refine va_get (D := D) (ci := 12) (v := .ref m17) (C := RX12) (T := TX12) (N := 42) hx hb hts iT_X12 hown hK hP 0 rfl rfl 17 (by decide) (hts _ tw_6_70) (fun _ h9 => h9) rfl dX12_isGate_4 ?_
  refine lv_iconst (v := 2) hx hb dX12_isGate_7 (by decide) ?_
  refine va_iald hx hb hK hP 1 0 rfl rfl (z_in (by decide) (by decide)) dX12_isGate_8 ?_
  refine lv_topi (fun x_1 ex_1 => ?_)
  have zx_1r2 : 0 ≤ x_1.toInt ∧ x_1.toInt ≤ 4 := by rw [ex_1]; exact PR.ld hp_f17_2 (by decide) (by decide) (by decide)
  refine lv_iconst (v := 1) hx hb dX12_isGate_9 (by decide) ?_
  refine lv_isub hx hb dX12_isGate_10 ?_
  refine lv_topi (fun x_2 ex_2 => ?_)
  have zx_2 : x_2.toInt = x_1.toInt - 1 := by rw [ex_2]; exact z_sub rfl rfl (by omega) (by omega)
  refine lv_i2l (v := x_2.toInt64) hx hb dX12_isGate_11 rfl ?_
  have hPc := hP.sub (ws' := []) [] rfl
  have hDc := hD.sub (ws' := []) [] (by decide) rfl
  have hFc := va_free (wc := []) hD hS hA [] rfl
  refine va_calli (va_runS (As := [.long p0.toInt64, .long 0, .long x_2.toInt64]) (rest := []) ⟨hx, hb, hml, hown, hts⟩ (c_X12_in l D k p0.toInt64 0 x_2.toInt64 s.heap.size) (va_cwS 3 hts (gS tw_6_188 tw_6_189 tw_1_13 tw_6_190) rfl rfl rfl hdS_X12_in ⟨Nat.le_of_ble_eq_true rfl, Nat.le_of_ble_eq_true rfl⟩) (cz_S hK hPc hDc hN [.long p0.toInt64, .long 0, .long x_2.toInt64]) rfl rfl hl.1 rfl (lv_room (Nat.le_of_ble_eq_true rfl)) dX12_isGate_12 ⟨Nat.le_of_ble_eq_true rfl, Nat.le_of_ble_eq_true rfl⟩) hS (fun q _ h => hFc q h) hFc (fun r_3 uZ tZ H1 locs ht hvm hw hB hz1 hk1 hS => ?_)
  obtain ⟨hP1, hK1, hD1⟩ := hB
  rw [ht] at hP1
  obtain ⟨hP, hD⟩ := va_join (wr := [(mo, .inr (12, [.int v0, .ref m1, .ref m2, .ref m3, .ref m4, .ref m5, .int v6, .int v7, .int v8, .int v9, .int v10, .long v11, .int v12, .int v13, .int v14, .int v15, .ref m16, .ref m17, .ref m18, .ref m19, .ref m20, .ref m21, .ref m22, .ref m23, .int v24, .ref m25, .ref m26, .ref m27, .ref m28, .ref m29, .int v30, .ref m31, .ref m32, .ref m33, .int v34, .int v35, .int v36, .ref m37, .ref m38, .ref m39, .ref m40, .long v41])), (m17, .inl (k 0, 30, .inl f17))]) (w1 := []) hP hD [] [0, 1] rfl rfl (by decide) (by decide) hk1 hFc hP1 hD1
  clear hK1 hP1 hD1 hPc hDc hFc
  clear hk1 hz1 ht hvm
  have hP : va_P D vwCl [(mo, .inr (12, [.int v0, .ref m1, .ref m2, .ref m3, .ref m4, .ref m5, .int v6, .int v7, .int v8, .int v9, .int v10, .long v11, .int v12, .int v13, .int v14, .int v15, .ref m16, .ref m17, .ref m18, .ref m19, .ref m20, .ref m21, .ref m22, .ref m23, .int v24, .ref m25, .ref m26, .ref m27, .ref m28, .ref m29, .int v30, .ref m31, .ref m32, .ref m33, .int v34, .int v35, .int v36, .ref m37, .ref m38, .ref m39, .ref m40, .long v41])), (m17, .inl (k 0, 30, .inl f17))] H1 := hP
  have hD : va_D A [(mo, .inr (12, [.int v0, .ref m1, .ref m2, .ref m3, .ref m4, .ref m5, .int v6, .int v7, .int v8, .int v9, .int v10, .long v11, .int v12, .int v13, .int v14, .int v15, .ref m16, .ref m17, .ref m18, .ref m19, .ref m20, .ref m21, .ref m22, .ref m23, .int v24, .ref m25, .ref m26, .ref m27, .ref m28, .ref m29, .int v30, .ref m31, .ref m32, .ref m33, .int v34, .int v35, .int v36, .ref m37, .ref m38, .ref m39, .ref m40, .long v41])), (m17, .inl (k 0, 30, .inl f17))] := hD
  generalize H1 = H at hP hS ⊢
  have hw_4 : (0 ≤ r_3.toInt ∧ r_3.toInt ≤ 1) ∧ ((r_3.toInt = 1 ∧ 0 ≤ p0.toInt64.toInt ∧ p0.toInt64.toInt ≤ x_2.toInt64.toInt) ∨ (r_3.toInt = 0 ∧ (p0.toInt64.toInt < 0 ∨ x_2.toInt64.toInt < p0.toInt64.toInt))) := hw
  obtain ⟨hw_5, hw_6⟩ := hw_4
  clear hw
  simp only [Int32.toInt_toInt64] at hw_5 hw_6
  have hP9 := hP.sub (ws' := [(mo, .inr (12, [.int v0, .ref m1, .ref m2, .ref m3, .ref m4, .ref m5, .int v6, .int v7, .int v8, .int v9, .int v10, .long v11, .int v12, .int v13, .int v14, .int v15, .ref m16, .ref m17, .ref m18, .ref m19, .ref m20, .ref m21, .ref m22, .ref m23, .int v24, .ref m25, .ref m26, .ref m27, .ref m28, .ref m29, .int v30, .ref m31, .ref m32, .ref m33, .int v34, .int v35, .int v36, .ref m37, .ref m38, .ref m39, .ref m40, .long v41])), (m17, .inl (k 0, 30, .inl f17))]) [0, 1] rfl
  have hD9 := hD.sub (ws' := [(mo, .inr (12, [.int v0, .ref m1, .ref m2, .ref m3, .ref m4, .ref m5, .int v6, .int v7, .int v8, .int v9, .int v10, .long v11, .int v12, .int v13, .int v14, .int v15, .ref m16, .ref m17, .ref m18, .ref m19, .ref m20, .ref m21, .ref m22, .ref m23, .int v24, .ref m25, .ref m26, .ref m27, .ref m28, .ref m29, .int v30, .ref m31, .ref m32, .ref m33, .int v34, .int v35, .int v36, .ref m37, .ref m38, .ref m39, .ref m40, .long v41])), (m17, .inl (k 0, 30, .inl f17))]) [0, 1] (by decide) rfl
  exact W.zret (v := r_3) hx hb hr (z_nar (by omega)) (fun tZ ht hW => ⟨⟨r_3, (), rfl, ⟨(show 0 ≤ r_3.toInt ∧ r_3.toInt ≤ 1 from by omega), (show (r_3.toInt = 1 ∧ 0 ≤ p0.toInt ∧ p0.toInt ≤ 3) ∨ r_3.toInt = 0 from by omega)⟩, by rw [ht]; exact hP9, va_K.moved hW.alike hK, hD9⟩, hS.F ht⟩) hS.2.2 dX12_isGate_15
set_option maxHeartbeats 4000000 in
set_option maxRecDepth 100000 in
theorem c_X12_isHouse (l : Launch) (D : va_G) (k : Nat → ClassId) (mo : Nat) (p0 : Int32) (v0 : Int32) (m1 : Nat) (m2 : Nat) (m3 : Nat) (m4 : Nat) (m5 : Nat) (v6 : Int32) (v7 : Int32) (v8 : Int32) (v9 : Int32) (v10 : Int32) (v11 : Int64) (v12 : Int32) (v13 : Int32) (v14 : Int32) (v15 : Int32) (m16 : Nat) (m17 : Nat) (m18 : Nat) (m19 : Nat) (m20 : Nat) (m21 : Nat) (m22 : Nat) (m23 : Nat) (v24 : Int32) (m25 : Nat) (m26 : Nat) (m27 : Nat) (m28 : Nat) (m29 : Nat) (v30 : Int32) (m31 : Nat) (m32 : Nat) (m33 : Nat) (v34 : Int32) (v35 : Int32) (v36 : Int32) (m37 : Nat) (m38 : Nat) (m39 : Nat) (m40 : Nat) (v41 : Int64) (f17 : Nat → Int32) (sz : Nat) (h_v6 : 0 ≤ v6.toInt ∧ v6.toInt ≤ 1000) (h_v24 : 0 ≤ v24.toInt ∧ v24.toInt ≤ 1023) (hp_f17_0 : PR 30 6 0 0 8 f17) (hp_f17_1 : PR 30 6 1 0 10 f17) (hp_f17_2 : PR 30 6 2 0 4 f17) (hp_f17_3 : PR 30 6 3 0 6 f17) (hp_f17_4 : PR 30 6 4 0 2 f17) (hp_f17_5 : PR 30 6 5 0 40 f17) : Met l yX12_isHouse (ww yX12_isHouse cX12_isHouse 2 (some .boolean)) ({ frames := 1, cells := 0, slots := 0, locals := 25 }) (Pre0 D k [(mo, .inr (12, [.int v0, .ref m1, .ref m2, .ref m3, .ref m4, .ref m5, .int v6, .int v7, .int v8, .int v9, .int v10, .long v11, .int v12, .int v13, .int v14, .int v15, .ref m16, .ref m17, .ref m18, .ref m19, .ref m20, .ref m21, .ref m22, .ref m23, .int v24, .ref m25, .ref m26, .ref m27, .ref m28, .ref m29, .int v30, .ref m31, .ref m32, .ref m33, .int v34, .int v35, .int v36, .ref m37, .ref m38, .ref m39, .ref m40, .long v41])), (m17, .inl (k 0, 30, .inl f17))] sz [.ref mo, .int p0]) (va_Qi (fun (r : Int32) (_ : Unit) => (0 ≤ r.toInt ∧ r.toInt ≤ 1) ∧ ((r.toInt = 1 ∧ 0 ≤ p0.toInt ∧ p0.toInt ≤ 5) ∨ r.toInt = 0)) (fun (_ : Unit) tZ => Bw D k (va_A [(mo, .inr (12, [.int v0, .ref m1, .ref m2, .ref m3, .ref m4, .ref m5, .int v6, .int v7, .int v8, .int v9, .int v10, .long v11, .int v12, .int v13, .int v14, .int v15, .ref m16, .ref m17, .ref m18, .ref m19, .ref m20, .ref m21, .ref m22, .ref m23, .int v24, .ref m25, .ref m26, .ref m27, .ref m28, .ref m29, .int v30, .ref m31, .ref m32, .ref m33, .int v34, .int v35, .int v36, .ref m37, .ref m38, .ref m39, .ref m40, .long v41])), (m17, .inl (k 0, 30, .inl f17))] sz) [(mo, .inr (12, [.int v0, .ref m1, .ref m2, .ref m3, .ref m4, .ref m5, .int v6, .int v7, .int v8, .int v9, .int v10, .long v11, .int v12, .int v13, .int v14, .int v15, .ref m16, .ref m17, .ref m18, .ref m19, .ref m20, .ref m21, .ref m22, .ref m23, .int v24, .ref m25, .ref m26, .ref m27, .ref m28, .ref m29, .int v30, .ref m31, .ref m32, .ref m33, .int v34, .int v35, .int v36, .ref m37, .ref m38, .ref m39, .ref m40, .long v41])), (m17, .inl (k 0, 30, .inl f17))] tZ) (va_A [(mo, .inr (12, [.int v0, .ref m1, .ref m2, .ref m3, .ref m4, .ref m5, .int v6, .int v7, .int v8, .int v9, .int v10, .long v11, .int v12, .int v13, .int v14, .int v15, .ref m16, .ref m17, .ref m18, .ref m19, .ref m20, .ref m21, .ref m22, .ref m23, .int v24, .ref m25, .ref m26, .ref m27, .ref m28, .ref m29, .int v30, .ref m31, .ref m32, .ref m33, .int v34, .int v35, .int v36, .ref m37, .ref m38, .ref m39, .ref m40, .long v41])), (m17, .inl (k 0, 30, .inl f17))] sz)) 0 0 (va_A [(mo, .inr (12, [.int v0, .ref m1, .ref m2, .ref m3, .ref m4, .ref m5, .int v6, .int v7, .int v8, .int v9, .int v10, .long v11, .int v12, .int v13, .int v14, .int v15, .ref m16, .ref m17, .ref m18, .ref m19, .ref m20, .ref m21, .ref m22, .ref m23, .int v24, .ref m25, .ref m26, .ref m27, .ref m28, .ref m29, .int v30, .ref m31, .ref m32, .ref m33, .int v34, .int v35, .int v36, .ref m37, .ref m38, .ref m39, .ref m40, .long v41])), (m17, .inl (k 0, 30, .inl f17))] sz) := by
  refine Met.ofW (cc := cX12_isHouse) (maxL := 2) (ret := (some .boolean)) (by decide +kernel) rfl ?_
  intro p e s m args below meth c s₁ B hml hv
  obtain ⟨rfl, hsz, hP, hK, hD0, hN⟩ := hv
  have hx := B.exec
  have hb := B.bytes
  have hr := B.returns
  have hts : ∀ w ∈ TT, w.before _ s = true := fun w h => atoms_spec (ws := ww yX12_isHouse cX12_isHouse 2 (some .boolean)) B.pre w (List.mem_cons_of_mem _ h)
  have hown : s.vm.findClass RX12 = some m.cls := findClass_of_methodNamed B.named
  have hlocks := B.notSynchronized
  subst hsz
  have hD := hD0.self (sz := s.heap.size)
  generalize hAe : va_A [(mo, .inr (12, [.int v0, .ref m1, .ref m2, .ref m3, .ref m4, .ref m5, .int v6, .int v7, .int v8, .int v9, .int v10, .long v11, .int v12, .int v13, .int v14, .int v15, .ref m16, .ref m17, .ref m18, .ref m19, .ref m20, .ref m21, .ref m22, .ref m23, .int v24, .ref m25, .ref m26, .ref m27, .ref m28, .ref m29, .int v30, .ref m31, .ref m32, .ref m33, .int v34, .int v35, .int v36, .ref m37, .ref m38, .ref m39, .ref m40, .long v41])), (m17, .inl (k 0, 30, .inl f17))] s.heap.size = A at hD ⊢
  have hA : ∀ q : Nat, s.heap.size ≤ q → A q := fun q h => by rw [← hAe]; exact Or.inr h
  have hS : va_S A s.heap s.heap [] := va_S.rf
  have hl := lv_entry ([.ref mo, .int p0]) (n := 2) (Nat.le_of_ble_eq_true rfl)
  rw [lg_entry_eq]
  generalize (lg_sl ([.ref mo, .int p0]) ++ List.replicate (2 - (lg_sl ([.ref mo, .int p0])).length) Slot.unset).toArray = ls at hl ⊢
  have hl : lv_has ls 2 [(0, .ref mo), (1, .int p0)] := hl
  refine lv_iload_n hx hb dX12_isHouse_0 rfl (lv_at hl 1 rfl) ?_
  refine lv_i2l (v := p0.toInt64) hx hb dX12_isHouse_1 rfl ?_
  refine lv_lconst (v := 0) hx hb dX12_isHouse_2 (by decide) ?_
  refine lv_aload_n hx hb dX12_isHouse_3 rfl (lv_at hl 0 rfl) ?_
  refine va_get (D := D) (ci := 12) (v := .ref m17) (C := RX12) (T := TX12) (N := 42) hx hb hts iT_X12 hown hK hP 0 rfl rfl 17 (by decide) (hts _ tw_6_70) (fun _ h9 => h9) rfl dX12_isHouse_4 ?_
  refine lv_iconst (v := 3) hx hb dX12_isHouse_7 (by decide) ?_
  refine va_iald hx hb hK hP 1 0 rfl rfl (z_in (by decide) (by decide)) dX12_isHouse_8 ?_
  refine lv_topi (fun x_1 ex_1 => ?_)
  have zx_1r3 : 0 ≤ x_1.toInt ∧ x_1.toInt ≤ 6 := by rw [ex_1]; exact PR.ld hp_f17_3 (by decide) (by decide) (by decide)
  refine lv_iconst (v := 1) hx hb dX12_isHouse_9 (by decide) ?_
  refine lv_isub hx hb dX12_isHouse_10 ?_
  refine lv_topi (fun x_2 ex_2 => ?_)
  have zx_2 : x_2.toInt = x_1.toInt - 1 := by rw [ex_2]; exact z_sub rfl rfl (by omega) (by omega)
  refine lv_i2l (v := x_2.toInt64) hx hb dX12_isHouse_11 rfl ?_
  have hPc := hP.sub (ws' := []) [] rfl
  have hDc := hD.sub (ws' := []) [] (by decide) rfl
  have hFc := va_free (wc := []) hD hS hA [] rfl
  refine va_calli (va_runS (As := [.long p0.toInt64, .long 0, .long x_2.toInt64]) (rest := []) ⟨hx, hb, hml, hown, hts⟩ (c_X12_in l D k p0.toInt64 0 x_2.toInt64 s.heap.size) (va_cwS 3 hts (gS tw_6_188 tw_6_189 tw_1_13 tw_6_190) rfl rfl rfl hdS_X12_in ⟨Nat.le_of_ble_eq_true rfl, Nat.le_of_ble_eq_true rfl⟩) (cz_S hK hPc hDc hN [.long p0.toInt64, .long 0, .long x_2.toInt64]) rfl rfl hl.1 rfl (lv_room (Nat.le_of_ble_eq_true rfl)) dX12_isHouse_12 ⟨Nat.le_of_ble_eq_true rfl, Nat.le_of_ble_eq_true rfl⟩) hS (fun q _ h => hFc q h) hFc (fun r_3 uZ tZ H1 locs ht hvm hw hB hz1 hk1 hS => ?_)
  obtain ⟨hP1, hK1, hD1⟩ := hB
  rw [ht] at hP1
  obtain ⟨hP, hD⟩ := va_join (wr := [(mo, .inr (12, [.int v0, .ref m1, .ref m2, .ref m3, .ref m4, .ref m5, .int v6, .int v7, .int v8, .int v9, .int v10, .long v11, .int v12, .int v13, .int v14, .int v15, .ref m16, .ref m17, .ref m18, .ref m19, .ref m20, .ref m21, .ref m22, .ref m23, .int v24, .ref m25, .ref m26, .ref m27, .ref m28, .ref m29, .int v30, .ref m31, .ref m32, .ref m33, .int v34, .int v35, .int v36, .ref m37, .ref m38, .ref m39, .ref m40, .long v41])), (m17, .inl (k 0, 30, .inl f17))]) (w1 := []) hP hD [] [0, 1] rfl rfl (by decide) (by decide) hk1 hFc hP1 hD1
  clear hK1 hP1 hD1 hPc hDc hFc
  clear hk1 hz1 ht hvm
  have hP : va_P D vwCl [(mo, .inr (12, [.int v0, .ref m1, .ref m2, .ref m3, .ref m4, .ref m5, .int v6, .int v7, .int v8, .int v9, .int v10, .long v11, .int v12, .int v13, .int v14, .int v15, .ref m16, .ref m17, .ref m18, .ref m19, .ref m20, .ref m21, .ref m22, .ref m23, .int v24, .ref m25, .ref m26, .ref m27, .ref m28, .ref m29, .int v30, .ref m31, .ref m32, .ref m33, .int v34, .int v35, .int v36, .ref m37, .ref m38, .ref m39, .ref m40, .long v41])), (m17, .inl (k 0, 30, .inl f17))] H1 := hP
  have hD : va_D A [(mo, .inr (12, [.int v0, .ref m1, .ref m2, .ref m3, .ref m4, .ref m5, .int v6, .int v7, .int v8, .int v9, .int v10, .long v11, .int v12, .int v13, .int v14, .int v15, .ref m16, .ref m17, .ref m18, .ref m19, .ref m20, .ref m21, .ref m22, .ref m23, .int v24, .ref m25, .ref m26, .ref m27, .ref m28, .ref m29, .int v30, .ref m31, .ref m32, .ref m33, .int v34, .int v35, .int v36, .ref m37, .ref m38, .ref m39, .ref m40, .long v41])), (m17, .inl (k 0, 30, .inl f17))] := hD
  generalize H1 = H at hP hS ⊢
  have hw_4 : (0 ≤ r_3.toInt ∧ r_3.toInt ≤ 1) ∧ ((r_3.toInt = 1 ∧ 0 ≤ p0.toInt64.toInt ∧ p0.toInt64.toInt ≤ x_2.toInt64.toInt) ∨ (r_3.toInt = 0 ∧ (p0.toInt64.toInt < 0 ∨ x_2.toInt64.toInt < p0.toInt64.toInt))) := hw
  obtain ⟨hw_5, hw_6⟩ := hw_4
  clear hw
  simp only [Int32.toInt_toInt64] at hw_5 hw_6
  have hP9 := hP.sub (ws' := [(mo, .inr (12, [.int v0, .ref m1, .ref m2, .ref m3, .ref m4, .ref m5, .int v6, .int v7, .int v8, .int v9, .int v10, .long v11, .int v12, .int v13, .int v14, .int v15, .ref m16, .ref m17, .ref m18, .ref m19, .ref m20, .ref m21, .ref m22, .ref m23, .int v24, .ref m25, .ref m26, .ref m27, .ref m28, .ref m29, .int v30, .ref m31, .ref m32, .ref m33, .int v34, .int v35, .int v36, .ref m37, .ref m38, .ref m39, .ref m40, .long v41])), (m17, .inl (k 0, 30, .inl f17))]) [0, 1] rfl
  have hD9 := hD.sub (ws' := [(mo, .inr (12, [.int v0, .ref m1, .ref m2, .ref m3, .ref m4, .ref m5, .int v6, .int v7, .int v8, .int v9, .int v10, .long v11, .int v12, .int v13, .int v14, .int v15, .ref m16, .ref m17, .ref m18, .ref m19, .ref m20, .ref m21, .ref m22, .ref m23, .int v24, .ref m25, .ref m26, .ref m27, .ref m28, .ref m29, .int v30, .ref m31, .ref m32, .ref m33, .int v34, .int v35, .int v36, .ref m37, .ref m38, .ref m39, .ref m40, .long v41])), (m17, .inl (k 0, 30, .inl f17))]) [0, 1] (by decide) rfl
  exact W.zret (v := r_3) hx hb hr (z_nar (by omega)) (fun tZ ht hW => ⟨⟨r_3, (), rfl, ⟨(show 0 ≤ r_3.toInt ∧ r_3.toInt ≤ 1 from by omega), (show (r_3.toInt = 1 ∧ 0 ≤ p0.toInt ∧ p0.toInt ≤ 5) ∨ r_3.toInt = 0 from by omega)⟩, by rw [ht]; exact hP9, va_K.moved hW.alike hK, hD9⟩, hS.F ht⟩) hS.2.2 dX12_isHouse_15
set_option maxHeartbeats 4000000 in
set_option maxRecDepth 100000 in
theorem c_X12_isMinute (l : Launch) (D : va_G) (k : Nat → ClassId) (p0 : Int32) (sz : Nat) : Met l yX12_isMinute (ww yX12_isMinute cX12_isMinute 1 (some .boolean)) ({ frames := 1, cells := 0, slots := 0, locals := 25 }) (Pre0 D k [] sz [.int p0]) (va_Qi (fun (r : Int32) (_ : Unit) => (0 ≤ r.toInt ∧ r.toInt ≤ 1) ∧ ((r.toInt = 1 ∧ 0 ≤ p0.toInt ∧ p0.toInt ≤ 999) ∨ r.toInt = 0)) (fun (_ : Unit) tZ => Bw D k (va_A [] sz) [] tZ) (va_A [] sz)) 0 0 (va_A [] sz) := by
  refine Met.ofW (cc := cX12_isMinute) (maxL := 1) (ret := (some .boolean)) (by decide +kernel) rfl ?_
  intro p e s m args below meth c s₁ B hml hv
  obtain ⟨rfl, hsz, hP, hK, hD0, hN⟩ := hv
  have hx := B.exec
  have hb := B.bytes
  have hr := B.returns
  have hts : ∀ w ∈ TT, w.before _ s = true := fun w h => atoms_spec (ws := ww yX12_isMinute cX12_isMinute 1 (some .boolean)) B.pre w (List.mem_cons_of_mem _ h)
  have hown : s.vm.findClass RX12 = some m.cls := findClass_of_methodNamed B.named
  have hlocks := B.notSynchronized
  subst hsz
  have hD := hD0.self (sz := s.heap.size)
  generalize hAe : va_A [] s.heap.size = A at hD ⊢
  have hA : ∀ q : Nat, s.heap.size ≤ q → A q := fun q h => by rw [← hAe]; exact Or.inr h
  have hS : va_S A s.heap s.heap [] := va_S.rf
  have hl := lv_entry ([.int p0]) (n := 1) (Nat.le_of_ble_eq_true rfl)
  rw [lg_entry_eq]
  generalize (lg_sl ([.int p0]) ++ List.replicate (1 - (lg_sl ([.int p0])).length) Slot.unset).toArray = ls at hl ⊢
  have hl : lv_has ls 1 [(0, .int p0)] := hl
  refine lv_iload_n hx hb dX12_isMinute_0 rfl (lv_at hl 0 rfl) ?_
  refine lv_i2l (v := p0.toInt64) hx hb dX12_isMinute_1 rfl ?_
  refine lv_lconst (v := 0) hx hb dX12_isMinute_2 (by decide) ?_
  refine lv_ldc2 (v := 999) hx hb hown (hts _ tw_7_188) dX12_isMinute_3 ?_
  have hPc := hP.sub (ws' := []) [] rfl
  have hDc := hD.sub (ws' := []) [] (by decide) rfl
  have hFc := va_free (wc := []) hD hS hA [] rfl
  refine va_calli (va_runS (As := [.long p0.toInt64, .long 0, .long 999]) (rest := []) ⟨hx, hb, hml, hown, hts⟩ (c_X12_in l D k p0.toInt64 0 999 s.heap.size) (va_cwS 3 hts (gS tw_6_188 tw_6_189 tw_1_13 tw_6_190) rfl rfl rfl hdS_X12_in ⟨Nat.le_of_ble_eq_true rfl, Nat.le_of_ble_eq_true rfl⟩) (cz_S hK hPc hDc hN [.long p0.toInt64, .long 0, .long 999]) rfl rfl hl.1 rfl (lv_room (Nat.le_of_ble_eq_true rfl)) dX12_isMinute_6 ⟨Nat.le_of_ble_eq_true rfl, Nat.le_of_ble_eq_true rfl⟩) hS (fun q _ h => hFc q h) hFc (fun r_1 uZ tZ H1 locs ht hvm hw hB hz1 hk1 hS => ?_)
  obtain ⟨hP1, hK1, hD1⟩ := hB
  rw [ht] at hP1
  obtain ⟨hP, hD⟩ := va_join (wr := []) (w1 := []) hP hD [] [] rfl rfl (by decide) (by decide) hk1 hFc hP1 hD1
  clear hK1 hP1 hD1 hPc hDc hFc
  clear hk1 hz1 ht hvm
  have hP : va_P D vwCl [] H1 := hP
  have hD : va_D A [] := hD
  generalize H1 = H at hP hS ⊢
  have hw_2 : (0 ≤ r_1.toInt ∧ r_1.toInt ≤ 1) ∧ ((r_1.toInt = 1 ∧ 0 ≤ p0.toInt64.toInt ∧ p0.toInt64.toInt ≤ 999) ∨ (r_1.toInt = 0 ∧ (p0.toInt64.toInt < 0 ∨ 999 < p0.toInt64.toInt))) := hw
  obtain ⟨hw_3, hw_4⟩ := hw_2
  clear hw
  simp only [Int32.toInt_toInt64] at hw_3 hw_4
  have hP9 := hP.sub (ws' := []) [] rfl
  have hD9 := hD.sub (ws' := []) [] (by decide) rfl
  exact W.zret (v := r_1) hx hb hr (z_nar (by omega)) (fun tZ ht hW => ⟨⟨r_1, (), rfl, ⟨(show 0 ≤ r_1.toInt ∧ r_1.toInt ≤ 1 from by omega), (show (r_1.toInt = 1 ∧ 0 ≤ p0.toInt ∧ p0.toInt ≤ 999) ∨ r_1.toInt = 0 from by omega)⟩, by rw [ht]; exact hP9, va_K.moved hW.alike hK, hD9⟩, hS.F ht⟩) hS.2.2 dX12_isMinute_9
set_option maxHeartbeats 4000000 in
set_option maxRecDepth 100000 in
theorem c_X12_isHalf (l : Launch) (D : va_G) (k : Nat → ClassId) (p0 : Int32) (sz : Nat) : Met l yX12_isHalf (ww yX12_isHalf cX12_isHalf 1 (some .boolean)) ({ frames := 1, cells := 0, slots := 0, locals := 25 }) (Pre0 D k [] sz [.int p0]) (va_Qi (fun (r : Int32) (_ : Unit) => (0 ≤ r.toInt ∧ r.toInt ≤ 1) ∧ ((r.toInt = 1 ∧ 0 ≤ p0.toInt ∧ p0.toInt ≤ 1) ∨ r.toInt = 0)) (fun (_ : Unit) tZ => Bw D k (va_A [] sz) [] tZ) (va_A [] sz)) 0 0 (va_A [] sz) := by
  refine Met.ofW (cc := cX12_isHalf) (maxL := 1) (ret := (some .boolean)) (by decide +kernel) rfl ?_
  intro p e s m args below meth c s₁ B hml hv
  obtain ⟨rfl, hsz, hP, hK, hD0, hN⟩ := hv
  have hx := B.exec
  have hb := B.bytes
  have hr := B.returns
  have hts : ∀ w ∈ TT, w.before _ s = true := fun w h => atoms_spec (ws := ww yX12_isHalf cX12_isHalf 1 (some .boolean)) B.pre w (List.mem_cons_of_mem _ h)
  have hown : s.vm.findClass RX12 = some m.cls := findClass_of_methodNamed B.named
  have hlocks := B.notSynchronized
  subst hsz
  have hD := hD0.self (sz := s.heap.size)
  generalize hAe : va_A [] s.heap.size = A at hD ⊢
  have hA : ∀ q : Nat, s.heap.size ≤ q → A q := fun q h => by rw [← hAe]; exact Or.inr h
  have hS : va_S A s.heap s.heap [] := va_S.rf
  have hl := lv_entry ([.int p0]) (n := 1) (Nat.le_of_ble_eq_true rfl)
  rw [lg_entry_eq]
  generalize (lg_sl ([.int p0]) ++ List.replicate (1 - (lg_sl ([.int p0])).length) Slot.unset).toArray = ls at hl ⊢
  have hl : lv_has ls 1 [(0, .int p0)] := hl
  refine lv_iload_n hx hb dX12_isHalf_0 rfl (lv_at hl 0 rfl) ?_
  refine lv_i2l (v := p0.toInt64) hx hb dX12_isHalf_1 rfl ?_
  refine lv_lconst (v := 0) hx hb dX12_isHalf_2 (by decide) ?_
  refine lv_lconst (v := 1) hx hb dX12_isHalf_3 (by decide) ?_
  have hPc := hP.sub (ws' := []) [] rfl
  have hDc := hD.sub (ws' := []) [] (by decide) rfl
  have hFc := va_free (wc := []) hD hS hA [] rfl
  refine va_calli (va_runS (As := [.long p0.toInt64, .long 0, .long 1]) (rest := []) ⟨hx, hb, hml, hown, hts⟩ (c_X12_in l D k p0.toInt64 0 1 s.heap.size) (va_cwS 3 hts (gS tw_6_188 tw_6_189 tw_1_13 tw_6_190) rfl rfl rfl hdS_X12_in ⟨Nat.le_of_ble_eq_true rfl, Nat.le_of_ble_eq_true rfl⟩) (cz_S hK hPc hDc hN [.long p0.toInt64, .long 0, .long 1]) rfl rfl hl.1 rfl (lv_room (Nat.le_of_ble_eq_true rfl)) dX12_isHalf_4 ⟨Nat.le_of_ble_eq_true rfl, Nat.le_of_ble_eq_true rfl⟩) hS (fun q _ h => hFc q h) hFc (fun r_1 uZ tZ H1 locs ht hvm hw hB hz1 hk1 hS => ?_)
  obtain ⟨hP1, hK1, hD1⟩ := hB
  rw [ht] at hP1
  obtain ⟨hP, hD⟩ := va_join (wr := []) (w1 := []) hP hD [] [] rfl rfl (by decide) (by decide) hk1 hFc hP1 hD1
  clear hK1 hP1 hD1 hPc hDc hFc
  clear hk1 hz1 ht hvm
  have hP : va_P D vwCl [] H1 := hP
  have hD : va_D A [] := hD
  generalize H1 = H at hP hS ⊢
  have hw_2 : (0 ≤ r_1.toInt ∧ r_1.toInt ≤ 1) ∧ ((r_1.toInt = 1 ∧ 0 ≤ p0.toInt64.toInt ∧ p0.toInt64.toInt ≤ 1) ∨ (r_1.toInt = 0 ∧ (p0.toInt64.toInt < 0 ∨ 1 < p0.toInt64.toInt))) := hw
  obtain ⟨hw_3, hw_4⟩ := hw_2
  clear hw
  simp only [Int32.toInt_toInt64] at hw_3 hw_4
  have hP9 := hP.sub (ws' := []) [] rfl
  have hD9 := hD.sub (ws' := []) [] (by decide) rfl
  exact W.zret (v := r_1) hx hb hr (z_nar (by omega)) (fun tZ ht hW => ⟨⟨r_1, (), rfl, ⟨(show 0 ≤ r_1.toInt ∧ r_1.toInt ≤ 1 from by omega), (show (r_1.toInt = 1 ∧ 0 ≤ p0.toInt ∧ p0.toInt ≤ 1) ∨ r_1.toInt = 0 from by omega)⟩, by rw [ht]; exact hP9, va_K.moved hW.alike hK, hD9⟩, hS.F ht⟩) hS.2.2 dX12_isHalf_7
set_option maxHeartbeats 4000000 in
set_option maxRecDepth 100000 in
theorem c_X12_isBit (l : Launch) (D : va_G) (k : Nat → ClassId) (p0 : Int32) (p1 : Int32) (sz : Nat) : Met l yX12_isBit (ww yX12_isBit cX12_isBit 2 (some .boolean)) ({ frames := 0, cells := 0, slots := 0, locals := 0 }) (Pre0 D k [] sz [.int p0, .int p1]) (va_Qi (fun (r : Int32) (_ : Unit) => (0 ≤ r.toInt ∧ r.toInt ≤ 1) ∧ (r = bitOf p0 p1)) (fun (_ : Unit) tZ => Bw D k (va_A [] sz) [] tZ) (va_A [] sz)) 0 0 (va_A [] sz) := by
  refine Met.ofW (cc := cX12_isBit) (maxL := 2) (ret := (some .boolean)) (by decide +kernel) rfl ?_
  intro p e s m args below meth c s₁ B hml hv
  obtain ⟨rfl, hsz, hP, hK, hD0, hN⟩ := hv
  have hx := B.exec
  have hb := B.bytes
  have hr := B.returns
  have hts : ∀ w ∈ TT, w.before _ s = true := fun w h => atoms_spec (ws := ww yX12_isBit cX12_isBit 2 (some .boolean)) B.pre w (List.mem_cons_of_mem _ h)
  have hown : s.vm.findClass RX12 = some m.cls := findClass_of_methodNamed B.named
  have hlocks := B.notSynchronized
  subst hsz
  have hD := hD0.self (sz := s.heap.size)
  generalize hAe : va_A [] s.heap.size = A at hD ⊢
  have hA : ∀ q : Nat, s.heap.size ≤ q → A q := fun q h => by rw [← hAe]; exact Or.inr h
  have hS : va_S A s.heap s.heap [] := va_S.rf
  have hl := lv_entry ([.int p0, .int p1]) (n := 2) (Nat.le_of_ble_eq_true rfl)
  rw [lg_entry_eq]
  generalize (lg_sl ([.int p0, .int p1]) ++ List.replicate (2 - (lg_sl ([.int p0, .int p1])).length) Slot.unset).toArray = ls at hl ⊢
  have hl : lv_has ls 2 [(0, .int p0), (1, .int p1)] := hl
  refine lv_iload_n hx hb dX12_isBit_0 rfl (lv_at hl 0 rfl) ?_
  refine lv_iload_n hx hb dX12_isBit_1 rfl (lv_at hl 1 rfl) ?_
  refine lv_ishr hx hb dX12_isBit_2 ?_
  refine lv_topi (fun x_1 ex_1 => ?_)
  have zrp0 := z_rng p0
  have zrp1 := z_rng p1
  refine lv_iconst (v := 1) hx hb dX12_isBit_3 (by decide) ?_
  refine lv_iand hx hb dX12_isBit_4 ?_
  refine lv_topi (fun x_2 ex_2 => ?_)
  have zrx_1 := z_rng x_1
  have zx_2 : 0 ≤ x_2.toInt ∧ x_2.toInt < 2 := by rw [ex_2]; exact z_and _ 1 2 rfl rfl (by decide)
  refine lv_iconst (v := 1) hx hb dX12_isBit_5 (by decide) ?_
  refine lv_icmp_ne (tgt := 13) hx hb dX12_isBit_6 (by decide) (fun h_3 => ?_) (fun h_3 => ?_)
  · skip
    have zh_3 : ¬ x_2.toInt = 1 := z_ne h_3
    refine lv_iconst (v := 0) hx hb dX12_isBit_13 (by decide) ?_
    have hP9 := hP.sub (ws' := []) [] rfl
    have hD9 := hD.sub (ws' := []) [] (by decide) rfl
    exact W.zret (v := 0) hx hb hr (by decide) (fun tZ ht hW => ⟨⟨0, (), rfl, ⟨(show 0 ≤ 0 ∧ 0 ≤ 1 from by omega), (show 0 = bitOf p0 p1 from by unfold bitOf; rw [← ex_1, ← ex_2]; rw [if_neg h_3])⟩, by rw [ht]; exact hP9, va_K.moved hW.alike hK, hD9⟩, hS.F ht⟩) hS.2.2 dX12_isBit_14
  · skip
    have zh_3 : x_2.toInt = 1 := z_eq h_3
    refine lv_iconst (v := 1) hx hb dX12_isBit_9 (by decide) ?_
    refine lv_goto (tgt := 14) hx hb dX12_isBit_10 (by decide) ?_
    have hP9 := hP.sub (ws' := []) [] rfl
    have hD9 := hD.sub (ws' := []) [] (by decide) rfl
    exact W.zret (v := 1) hx hb hr (by decide) (fun tZ ht hW => ⟨⟨1, (), rfl, ⟨(show 0 ≤ 1 ∧ 1 ≤ 1 from by omega), (show 1 = bitOf p0 p1 from by unfold bitOf; rw [← ex_1, ← ex_2]; rw [if_pos h_3])⟩, by rw [ht]; exact hP9, va_K.moved hW.alike hK, hD9⟩, hS.F ht⟩) hS.2.2 dX12_isBit_14
set_option maxHeartbeats 4000000 in
set_option maxRecDepth 100000 in
theorem c_X12_sizeOf (l : Launch) (D : va_G) (k : Nat → ClassId) (p0 : Int32) (sz : Nat) : Met l yX12_sizeOf (ww yX12_sizeOf cX12_sizeOf 3 (some .int)) ({ frames := 0, cells := 0, slots := 0, locals := 0 }) (Pre0 D k [] sz [.int p0]) (va_Qi (fun (r : Int32) (_ : Unit) => True) (fun (_ : Unit) tZ => Bw D k (va_A [] sz) [] tZ) (va_A [] sz)) 0 0 (va_A [] sz) := by
  refine Met.ofW (cc := cX12_sizeOf) (maxL := 3) (ret := (some .int)) (by decide +kernel) rfl ?_
  intro p e s m args below meth c s₁ B hml hv
  obtain ⟨rfl, hsz, hP, hK, hD0, hN⟩ := hv
  have hx := B.exec
  have hb := B.bytes
  have hr := B.returns
  have hts : ∀ w ∈ TT, w.before _ s = true := fun w h => atoms_spec (ws := ww yX12_sizeOf cX12_sizeOf 3 (some .int)) B.pre w (List.mem_cons_of_mem _ h)
  have hown : s.vm.findClass RX12 = some m.cls := findClass_of_methodNamed B.named
  have hlocks := B.notSynchronized
  subst hsz
  have hD := hD0.self (sz := s.heap.size)
  generalize hAe : va_A [] s.heap.size = A at hD ⊢
  have hA : ∀ q : Nat, s.heap.size ≤ q → A q := fun q h => by rw [← hAe]; exact Or.inr h
  have hS : va_S A s.heap s.heap [] := va_S.rf
  have hl := lv_entry ([.int p0]) (n := 3) (Nat.le_of_ble_eq_true rfl)
  rw [lg_entry_eq]
  generalize (lg_sl ([.int p0]) ++ List.replicate (3 - (lg_sl ([.int p0])).length) Slot.unset).toArray = ls at hl ⊢
  have hl : lv_has ls 3 [(0, .int p0)] := hl
  refine lv_iconst (v := 0) hx hb dX12_sizeOf_0 (by decide) ?_
  refine lv_istore_n (lv' := [(1, .int 0), (0, .int p0)]) hx hb dX12_sizeOf_1 rfl hl (by decide) rfl (fun ls hl => ?_)
  refine lv_iload_n hx hb dX12_sizeOf_2 rfl (lv_at hl 1 rfl) ?_
  refine lv_istore_n (lv' := [(2, .int p0), (1, .int 0), (0, .int p0)]) hx hb dX12_sizeOf_3 rfl hl (by decide) rfl (fun ls hl => ?_)
  refine loop_r (Wg := fun H locs ls => W p l e _ s m _ below meth c H locs _ _ _ (F0 m 4 ls [])) (fun n9 H locs ls => ∃ (L4l1 : Int32) (L4l2 : Int32), n9 = L4l2.toBitVec.toNat ∧ va_P D vwCl [] H ∧ va_D A [] ∧ va_S A s.heap H locs ∧ lv_has ls 3 [(0, .int p0), (1, .int L4l1), (2, .int L4l2)]) (fun n9 H locs ls hI ih_1 => ?_) _ _ _ _ ⟨0, p0, rfl, hP.sub (ws' := []) [] rfl, hD.sub (ws' := []) [] (by decide) rfl, hS, lv_sub hl [2, 1, 0] rfl⟩
  clear hP hD hS hl
  obtain ⟨L4l1, L4l2, en_2, hP, hD, hS, hl⟩ := hI
  refine lv_iload_n hx hb dX12_sizeOf_4 rfl (lv_at hl 2 rfl) ?_
  refine lv_if_eq (tgt := 20) hx hb dX12_sizeOf_5 (by decide) (fun h_3 => ?_) (fun h_3 => ?_)
  · skip
    have zh_3 : L4l2.toInt = 0 := z_eq h_3
    refine lv_iload_n hx hb dX12_sizeOf_20 rfl (lv_at hl 1 rfl) ?_
    have hP9 := hP.sub (ws' := []) [] rfl
    have hD9 := hD.sub (ws' := []) [] (by decide) rfl
    exact W.iret (v := L4l1) hx hb hr (fun tZ ht hW => ⟨⟨L4l1, (), rfl, trivial, by rw [ht]; exact hP9, va_K.moved hW.alike hK, hD9⟩, hS.F ht⟩) hS.2.2 dX12_sizeOf_21
  · skip
    have zh_3 : ¬ L4l2.toInt = 0 := z_ne h_3
    obtain ⟨x_4, ex_4⟩ : ∃ y : Int32, y = L4l1 + 1 := ⟨_, rfl⟩
    have zrL4l1 := z_rng L4l1
    refine lv_iinc (v := x_4) (lv' := [(1, .int x_4), (0, .int p0), (2, .int L4l2)]) hx hb dX12_sizeOf_8 hl (k := 1) rfl (by rw [ex_4]; rfl) (by decide) rfl (fun ls hl => ?_)
    refine lv_iload_n hx hb dX12_sizeOf_11 rfl (lv_at hl 2 rfl) ?_
    refine lv_iload_n hx hb dX12_sizeOf_12 rfl (lv_at hl 2 rfl) ?_
    refine lv_iconst (v := 1) hx hb dX12_sizeOf_13 (by decide) ?_
    refine lv_isub hx hb dX12_sizeOf_14 ?_
    refine lv_topi (fun x_5 ex_5 => ?_)
    have zrL4l2 := z_rng L4l2
    refine lv_iand hx hb dX12_sizeOf_15 ?_
    refine lv_topi (fun x_6 ex_6 => ?_)
    have zrx_5 := z_rng x_5
    refine lv_istore_n (lv' := [(2, .int x_6), (1, .int x_4), (0, .int p0)]) hx hb dX12_sizeOf_16 rfl hl (by decide) rfl (fun ls hl => ?_)
    refine lv_goto (tgt := 4) hx hb dX12_sizeOf_17 (by decide) ?_
    exact ih_1 _ _ _ _ (by rw [en_2, ex_6, ex_5]; exact z_pop h_3) ⟨x_4, x_6, rfl, hP.sub (ws' := []) [] rfl, hD.sub (ws' := []) [] (by decide) rfl, hS, lv_sub hl [2, 1, 0] rfl⟩
set_option maxHeartbeats 4000000 in
set_option maxRecDepth 100000 in
theorem c_X12_lays (l : Launch) (D : va_G) (k : Nat → ClassId) (mo : Nat) (v0 : Int32) (m1 : Nat) (m2 : Nat) (m3 : Nat) (m4 : Nat) (m5 : Nat) (v6 : Int32) (v7 : Int32) (v8 : Int32) (v9 : Int32) (v10 : Int32) (v11 : Int64) (v12 : Int32) (v13 : Int32) (v14 : Int32) (v15 : Int32) (m16 : Nat) (m17 : Nat) (m18 : Nat) (m19 : Nat) (m20 : Nat) (m21 : Nat) (m22 : Nat) (m23 : Nat) (v24 : Int32) (m25 : Nat) (m26 : Nat) (m27 : Nat) (m28 : Nat) (m29 : Nat) (v30 : Int32) (m31 : Nat) (m32 : Nat) (m33 : Nat) (v34 : Int32) (v35 : Int32) (v36 : Int32) (m37 : Nat) (m38 : Nat) (m39 : Nat) (m40 : Nat) (v41 : Int64) (f17 : Nat → Int32) (f18 : Nat → Int32) (f19 : Nat → Int32) (f22 : Nat → Int32) (f25 : Nat → Int32) (sz : Nat) (h_v6 : 0 ≤ v6.toInt ∧ v6.toInt ≤ 1000) (h_v24 : 0 ≤ v24.toInt ∧ v24.toInt ≤ 1023) (hp_f17_0 : PR 30 6 0 0 8 f17) (hp_f17_1 : PR 30 6 1 0 10 f17) (hp_f17_2 : PR 30 6 2 0 4 f17) (hp_f17_3 : PR 30 6 3 0 6 f17) (hp_f17_4 : PR 30 6 4 0 2 f17) (hp_f17_5 : PR 30 6 5 0 40 f17) (hp_f18_0 : PR 250 5 0 0 7 f18) (hp_f18_1 : PR 250 5 1 0 7 f18) (hp_f18_2 : PR 250 5 2 0 60 f18) (hp_f18_3 : PR 250 5 3 0 10 f18) (hp_f19_0 : PR 40 2 0 0 7 f19) (hp_f19_1 : PR 40 2 1 0 99 f19) (hp_f22_0 : PR 600 3 1 0 9 f22) (hp_f22_1 : PR 600 3 2 0 99 f22) (hp_f22_2 : AK f22) (hp_f25_0 : PR 4 1 0 0 99 f25) : Met l yX12_lays (ww yX12_lays cX12_lays 4 none) ({ frames := 0, cells := 0, slots := 0, locals := 0 }) (Pre0 D k [(mo, .inr (12, [.int v0, .ref m1, .ref m2, .ref m3, .ref m4, .ref m5, .int v6, .int v7, .int v8, .int v9, .int v10, .long v11, .int v12, .int v13, .int v14, .int v15, .ref m16, .ref m17, .ref m18, .ref m19, .ref m20, .ref m21, .ref m22, .ref m23, .int v24, .ref m25, .ref m26, .ref m27, .ref m28, .ref m29, .int v30, .ref m31, .ref m32, .ref m33, .int v34, .int v35, .int v36, .ref m37, .ref m38, .ref m39, .ref m40, .long v41])), (m17, .inl (k 0, 30, .inl f17)), (m18, .inl (k 0, 250, .inl f18)), (m19, .inl (k 0, 40, .inl f19)), (m22, .inl (k 0, 600, .inl f22)), (m25, .inl (k 0, 4, .inl f25))] sz [.ref mo]) (va_Qv (fun (u : Int32 × (Nat → Int32)) => match u with | (v24z, f25z) => (0 ≤ v24z.toInt ∧ v24z.toInt ≤ 1023) ∧ (PR 4 1 0 0 99 f25z)) (fun (u : Int32 × (Nat → Int32)) tZ => match u with | (v24z, f25z) => Bw D k (va_A [(mo, .inr (12, [.int v0, .ref m1, .ref m2, .ref m3, .ref m4, .ref m5, .int v6, .int v7, .int v8, .int v9, .int v10, .long v11, .int v12, .int v13, .int v14, .int v15, .ref m16, .ref m17, .ref m18, .ref m19, .ref m20, .ref m21, .ref m22, .ref m23, .int v24, .ref m25, .ref m26, .ref m27, .ref m28, .ref m29, .int v30, .ref m31, .ref m32, .ref m33, .int v34, .int v35, .int v36, .ref m37, .ref m38, .ref m39, .ref m40, .long v41])), (m17, .inl (k 0, 30, .inl f17)), (m18, .inl (k 0, 250, .inl f18)), (m19, .inl (k 0, 40, .inl f19)), (m22, .inl (k 0, 600, .inl f22)), (m25, .inl (k 0, 4, .inl f25))] sz) [(mo, .inr (12, [.int v0, .ref m1, .ref m2, .ref m3, .ref m4, .ref m5, .int v6, .int v7, .int v8, .int v9, .int v10, .long v11, .int v12, .int v13, .int v14, .int v15, .ref m16, .ref m17, .ref m18, .ref m19, .ref m20, .ref m21, .ref m22, .ref m23, .int v24z, .ref m25, .ref m26, .ref m27, .ref m28, .ref m29, .int v30, .ref m31, .ref m32, .ref m33, .int v34, .int v35, .int v36, .ref m37, .ref m38, .ref m39, .ref m40, .long v41])), (m17, .inl (k 0, 30, .inl f17)), (m18, .inl (k 0, 250, .inl f18)), (m19, .inl (k 0, 40, .inl f19)), (m22, .inl (k 0, 600, .inl f22)), (m25, .inl (k 0, 4, .inl f25z))] tZ) (va_A [(mo, .inr (12, [.int v0, .ref m1, .ref m2, .ref m3, .ref m4, .ref m5, .int v6, .int v7, .int v8, .int v9, .int v10, .long v11, .int v12, .int v13, .int v14, .int v15, .ref m16, .ref m17, .ref m18, .ref m19, .ref m20, .ref m21, .ref m22, .ref m23, .int v24, .ref m25, .ref m26, .ref m27, .ref m28, .ref m29, .int v30, .ref m31, .ref m32, .ref m33, .int v34, .int v35, .int v36, .ref m37, .ref m38, .ref m39, .ref m40, .long v41])), (m17, .inl (k 0, 30, .inl f17)), (m18, .inl (k 0, 250, .inl f18)), (m19, .inl (k 0, 40, .inl f19)), (m22, .inl (k 0, 600, .inl f22)), (m25, .inl (k 0, 4, .inl f25))] sz)) 0 0 (va_A [(mo, .inr (12, [.int v0, .ref m1, .ref m2, .ref m3, .ref m4, .ref m5, .int v6, .int v7, .int v8, .int v9, .int v10, .long v11, .int v12, .int v13, .int v14, .int v15, .ref m16, .ref m17, .ref m18, .ref m19, .ref m20, .ref m21, .ref m22, .ref m23, .int v24, .ref m25, .ref m26, .ref m27, .ref m28, .ref m29, .int v30, .ref m31, .ref m32, .ref m33, .int v34, .int v35, .int v36, .ref m37, .ref m38, .ref m39, .ref m40, .long v41])), (m17, .inl (k 0, 30, .inl f17)), (m18, .inl (k 0, 250, .inl f18)), (m19, .inl (k 0, 40, .inl f19)), (m22, .inl (k 0, 600, .inl f22)), (m25, .inl (k 0, 4, .inl f25))] sz) := by
  refine Met.ofW (cc := cX12_lays) (maxL := 4) (ret := none) (by decide +kernel) rfl ?_
  intro p e s m args below meth c s₁ B hml hv
  obtain ⟨rfl, hsz, hP, hK, hD0, hN⟩ := hv
  have hx := B.exec
  have hb := B.bytes
  have hr := B.returns
  have hts : ∀ w ∈ TT, w.before _ s = true := fun w h => atoms_spec (ws := ww yX12_lays cX12_lays 4 none) B.pre w (List.mem_cons_of_mem _ h)
  have hown : s.vm.findClass RX12 = some m.cls := findClass_of_methodNamed B.named
  have hlocks := B.notSynchronized
  subst hsz
  have hD := hD0.self (sz := s.heap.size)
  generalize hAe : va_A [(mo, .inr (12, [.int v0, .ref m1, .ref m2, .ref m3, .ref m4, .ref m5, .int v6, .int v7, .int v8, .int v9, .int v10, .long v11, .int v12, .int v13, .int v14, .int v15, .ref m16, .ref m17, .ref m18, .ref m19, .ref m20, .ref m21, .ref m22, .ref m23, .int v24, .ref m25, .ref m26, .ref m27, .ref m28, .ref m29, .int v30, .ref m31, .ref m32, .ref m33, .int v34, .int v35, .int v36, .ref m37, .ref m38, .ref m39, .ref m40, .long v41])), (m17, .inl (k 0, 30, .inl f17)), (m18, .inl (k 0, 250, .inl f18)), (m19, .inl (k 0, 40, .inl f19)), (m22, .inl (k 0, 600, .inl f22)), (m25, .inl (k 0, 4, .inl f25))] s.heap.size = A at hD ⊢
  have hA : ∀ q : Nat, s.heap.size ≤ q → A q := fun q h => by rw [← hAe]; exact Or.inr h
  have hS : va_S A s.heap s.heap [] := va_S.rf
  have hl := lv_entry ([.ref mo]) (n := 4) (Nat.le_of_ble_eq_true rfl)
  rw [lg_entry_eq]
  generalize (lg_sl ([.ref mo]) ++ List.replicate (4 - (lg_sl ([.ref mo])).length) Slot.unset).toArray = ls at hl ⊢
  have hl : lv_has ls 4 [(0, .ref mo)] := hl
  refine lv_aload_n hx hb dX12_lays_0 rfl (lv_at hl 0 rfl) ?_
  refine lv_iconst (v := 0) hx hb dX12_lays_1 (by decide) ?_
  refine va_put (D := D) (ci := 12) (v := .int 0) (ty := tyX12 24) (C := RX12) (T := TX12) (N := 42) hx hb hts iT_X12 tyX12 tyX12_ok nmX12 hown hK hP hD hS 0 rfl rfl 24 (by decide) (hts _ tw_6_77) (fun _ h9 => h9) rfl (tyX12_ok 24 (by decide)) rfl rfl (Nat.le_of_ble_eq_true rfl) dX12_lays_2 (fun H locs hP hD hS => ?_)
  have hP : va_P D vwCl [(mo, .inr (12, [.int v0, .ref m1, .ref m2, .ref m3, .ref m4, .ref m5, .int v6, .int v7, .int v8, .int v9, .int v10, .long v11, .int v12, .int v13, .int v14, .int v15, .ref m16, .ref m17, .ref m18, .ref m19, .ref m20, .ref m21, .ref m22, .ref m23, .int 0, .ref m25, .ref m26, .ref m27, .ref m28, .ref m29, .int v30, .ref m31, .ref m32, .ref m33, .int v34, .int v35, .int v36, .ref m37, .ref m38, .ref m39, .ref m40, .long v41])), (m17, .inl (k 0, 30, .inl f17)), (m18, .inl (k 0, 250, .inl f18)), (m19, .inl (k 0, 40, .inl f19)), (m22, .inl (k 0, 600, .inl f22)), (m25, .inl (k 0, 4, .inl f25))] H := hP
  have hD : va_D A [(mo, .inr (12, [.int v0, .ref m1, .ref m2, .ref m3, .ref m4, .ref m5, .int v6, .int v7, .int v8, .int v9, .int v10, .long v11, .int v12, .int v13, .int v14, .int v15, .ref m16, .ref m17, .ref m18, .ref m19, .ref m20, .ref m21, .ref m22, .ref m23, .int 0, .ref m25, .ref m26, .ref m27, .ref m28, .ref m29, .int v30, .ref m31, .ref m32, .ref m33, .int v34, .int v35, .int v36, .ref m37, .ref m38, .ref m39, .ref m40, .long v41])), (m17, .inl (k 0, 30, .inl f17)), (m18, .inl (k 0, 250, .inl f18)), (m19, .inl (k 0, 40, .inl f19)), (m22, .inl (k 0, 600, .inl f22)), (m25, .inl (k 0, 4, .inl f25))] := hD
  refine lv_iconst (v := 0) hx hb dX12_lays_5 (by decide) ?_
  refine lv_istore_n (lv' := [(1, .int 0), (0, .ref mo)]) hx hb dX12_lays_6 rfl hl (by decide) rfl (fun ls hl => ?_)
  refine loop_r (Wg := fun H locs ls => W p l e _ s m _ below meth c H locs _ _ _ (F0 m 7 ls [])) (fun n9 H locs ls => ∃ (L7l1 : Int32) (L7f0x24 : Int32), n9 = (10 - L7l1.toInt).toNat ∧ (0 ≤ L7l1.toInt ∧ L7l1.toInt ≤ 10) ∧ (0 ≤ L7f0x24.toInt ∧ L7f0x24.toInt ≤ 1023) ∧ va_P D vwCl [(mo, .inr (12, [.int v0, .ref m1, .ref m2, .ref m3, .ref m4, .ref m5, .int v6, .int v7, .int v8, .int v9, .int v10, .long v11, .int v12, .int v13, .int v14, .int v15, .ref m16, .ref m17, .ref m18, .ref m19, .ref m20, .ref m21, .ref m22, .ref m23, .int L7f0x24, .ref m25, .ref m26, .ref m27, .ref m28, .ref m29, .int v30, .ref m31, .ref m32, .ref m33, .int v34, .int v35, .int v36, .ref m37, .ref m38, .ref m39, .ref m40, .long v41])), (m17, .inl (k 0, 30, .inl f17)), (m18, .inl (k 0, 250, .inl f18)), (m19, .inl (k 0, 40, .inl f19)), (m22, .inl (k 0, 600, .inl f22)), (m25, .inl (k 0, 4, .inl f25))] H ∧ va_D A [(mo, .inr (12, [.int v0, .ref m1, .ref m2, .ref m3, .ref m4, .ref m5, .int v6, .int v7, .int v8, .int v9, .int v10, .long v11, .int v12, .int v13, .int v14, .int v15, .ref m16, .ref m17, .ref m18, .ref m19, .ref m20, .ref m21, .ref m22, .ref m23, .int L7f0x24, .ref m25, .ref m26, .ref m27, .ref m28, .ref m29, .int v30, .ref m31, .ref m32, .ref m33, .int v34, .int v35, .int v36, .ref m37, .ref m38, .ref m39, .ref m40, .long v41])), (m17, .inl (k 0, 30, .inl f17)), (m18, .inl (k 0, 250, .inl f18)), (m19, .inl (k 0, 40, .inl f19)), (m22, .inl (k 0, 600, .inl f22)), (m25, .inl (k 0, 4, .inl f25))] ∧ va_S A s.heap H locs ∧ lv_has ls 4 [(0, .ref mo), (1, .int L7l1)]) (fun n9 H locs ls hI ih_1 => ?_) _ _ _ _ ⟨0, 0, rfl, (show 0 ≤ 0 ∧ 0 ≤ 10 from by omega), (show 0 ≤ 0 ∧ 0 ≤ 1023 from by omega), hP.sub (ws' := [(mo, .inr (12, [.int v0, .ref m1, .ref m2, .ref m3, .ref m4, .ref m5, .int v6, .int v7, .int v8, .int v9, .int v10, .long v11, .int v12, .int v13, .int v14, .int v15, .ref m16, .ref m17, .ref m18, .ref m19, .ref m20, .ref m21, .ref m22, .ref m23, .int 0, .ref m25, .ref m26, .ref m27, .ref m28, .ref m29, .int v30, .ref m31, .ref m32, .ref m33, .int v34, .int v35, .int v36, .ref m37, .ref m38, .ref m39, .ref m40, .long v41])), (m17, .inl (k 0, 30, .inl f17)), (m18, .inl (k 0, 250, .inl f18)), (m19, .inl (k 0, 40, .inl f19)), (m22, .inl (k 0, 600, .inl f22)), (m25, .inl (k 0, 4, .inl f25))]) [0, 1, 2, 3, 4, 5] rfl, hD.sub (ws' := [(mo, .inr (12, [.int v0, .ref m1, .ref m2, .ref m3, .ref m4, .ref m5, .int v6, .int v7, .int v8, .int v9, .int v10, .long v11, .int v12, .int v13, .int v14, .int v15, .ref m16, .ref m17, .ref m18, .ref m19, .ref m20, .ref m21, .ref m22, .ref m23, .int 0, .ref m25, .ref m26, .ref m27, .ref m28, .ref m29, .int v30, .ref m31, .ref m32, .ref m33, .int v34, .int v35, .int v36, .ref m37, .ref m38, .ref m39, .ref m40, .long v41])), (m17, .inl (k 0, 30, .inl f17)), (m18, .inl (k 0, 250, .inl f18)), (m19, .inl (k 0, 40, .inl f19)), (m22, .inl (k 0, 600, .inl f22)), (m25, .inl (k 0, 4, .inl f25))]) [0, 1, 2, 3, 4, 5] (by decide) rfl, hS, lv_sub hl [1, 0] rfl⟩
  clear hP hD hS hl
  obtain ⟨L7l1, L7f0x24, en_2, zL7l1, zL7f0x24, hP, hD, hS, hl⟩ := hI
  refine lv_iload_n hx hb dX12_lays_7 rfl (lv_at hl 1 rfl) ?_
  refine lv_aload_n hx hb dX12_lays_8 rfl (lv_at hl 0 rfl) ?_
  refine va_get (D := D) (ci := 12) (v := .ref m17) (C := RX12) (T := TX12) (N := 42) hx hb hts iT_X12 hown hK hP 0 rfl rfl 17 (by decide) (hts _ tw_6_70) (fun _ h9 => h9) rfl dX12_lays_9 ?_
  refine lv_iconst (v := 1) hx hb dX12_lays_12 (by decide) ?_
  refine va_iald hx hb hK hP 1 0 rfl rfl (z_in (by decide) (by decide)) dX12_lays_13 ?_
  refine lv_topi (fun x_3 ex_3 => ?_)
  have zx_3r1 : 0 ≤ x_3.toInt ∧ x_3.toInt ≤ 10 := by rw [ex_3]; exact PR.ld hp_f17_1 (by decide) (by decide) (by decide)
  refine lv_icmp_ge (tgt := 52) hx hb dX12_lays_14 (by decide) (fun h_4 => ?_) (fun h_4 => ?_)
  · skip
    have zh_4 : x_3.toInt ≤ L7l1.toInt := z_le h_4
    refine lv_iconst (v := 0) hx hb dX12_lays_52 (by decide) ?_
    refine lv_istore_n (lv' := [(1, .int 0), (0, .ref mo)]) hx hb dX12_lays_53 rfl hl (by decide) rfl (fun ls hl => ?_)
    refine loop_r (Wg := fun H locs ls => W p l e _ s m _ below meth c H locs _ _ _ (F0 m 54 ls [])) (fun n9 H locs ls => ∃ (L54l1 : Int32) (L54a5 : Nat → Int32), n9 = (4 - L54l1.toInt).toNat ∧ (0 ≤ L54l1.toInt ∧ L54l1.toInt ≤ 4) ∧ (PR 4 1 0 0 99 L54a5) ∧ va_P D vwCl [(mo, .inr (12, [.int v0, .ref m1, .ref m2, .ref m3, .ref m4, .ref m5, .int v6, .int v7, .int v8, .int v9, .int v10, .long v11, .int v12, .int v13, .int v14, .int v15, .ref m16, .ref m17, .ref m18, .ref m19, .ref m20, .ref m21, .ref m22, .ref m23, .int L7f0x24, .ref m25, .ref m26, .ref m27, .ref m28, .ref m29, .int v30, .ref m31, .ref m32, .ref m33, .int v34, .int v35, .int v36, .ref m37, .ref m38, .ref m39, .ref m40, .long v41])), (m17, .inl (k 0, 30, .inl f17)), (m18, .inl (k 0, 250, .inl f18)), (m19, .inl (k 0, 40, .inl f19)), (m22, .inl (k 0, 600, .inl f22)), (m25, .inl (k 0, 4, .inl L54a5))] H ∧ va_D A [(mo, .inr (12, [.int v0, .ref m1, .ref m2, .ref m3, .ref m4, .ref m5, .int v6, .int v7, .int v8, .int v9, .int v10, .long v11, .int v12, .int v13, .int v14, .int v15, .ref m16, .ref m17, .ref m18, .ref m19, .ref m20, .ref m21, .ref m22, .ref m23, .int L7f0x24, .ref m25, .ref m26, .ref m27, .ref m28, .ref m29, .int v30, .ref m31, .ref m32, .ref m33, .int v34, .int v35, .int v36, .ref m37, .ref m38, .ref m39, .ref m40, .long v41])), (m17, .inl (k 0, 30, .inl f17)), (m18, .inl (k 0, 250, .inl f18)), (m19, .inl (k 0, 40, .inl f19)), (m22, .inl (k 0, 600, .inl f22)), (m25, .inl (k 0, 4, .inl L54a5))] ∧ va_S A s.heap H locs ∧ lv_has ls 4 [(0, .ref mo), (1, .int L54l1)]) (fun n9 H locs ls hI ih_5 => ?_) _ _ _ _ ⟨0, f25, rfl, (show 0 ≤ 0 ∧ 0 ≤ 4 from by omega), hp_f25_0, hP.sub (ws' := [(mo, .inr (12, [.int v0, .ref m1, .ref m2, .ref m3, .ref m4, .ref m5, .int v6, .int v7, .int v8, .int v9, .int v10, .long v11, .int v12, .int v13, .int v14, .int v15, .ref m16, .ref m17, .ref m18, .ref m19, .ref m20, .ref m21, .ref m22, .ref m23, .int L7f0x24, .ref m25, .ref m26, .ref m27, .ref m28, .ref m29, .int v30, .ref m31, .ref m32, .ref m33, .int v34, .int v35, .int v36, .ref m37, .ref m38, .ref m39, .ref m40, .long v41])), (m17, .inl (k 0, 30, .inl f17)), (m18, .inl (k 0, 250, .inl f18)), (m19, .inl (k 0, 40, .inl f19)), (m22, .inl (k 0, 600, .inl f22)), (m25, .inl (k 0, 4, .inl f25))]) [0, 1, 2, 3, 4, 5] rfl, hD.sub (ws' := [(mo, .inr (12, [.int v0, .ref m1, .ref m2, .ref m3, .ref m4, .ref m5, .int v6, .int v7, .int v8, .int v9, .int v10, .long v11, .int v12, .int v13, .int v14, .int v15, .ref m16, .ref m17, .ref m18, .ref m19, .ref m20, .ref m21, .ref m22, .ref m23, .int L7f0x24, .ref m25, .ref m26, .ref m27, .ref m28, .ref m29, .int v30, .ref m31, .ref m32, .ref m33, .int v34, .int v35, .int v36, .ref m37, .ref m38, .ref m39, .ref m40, .long v41])), (m17, .inl (k 0, 30, .inl f17)), (m18, .inl (k 0, 250, .inl f18)), (m19, .inl (k 0, 40, .inl f19)), (m22, .inl (k 0, 600, .inl f22)), (m25, .inl (k 0, 4, .inl f25))]) [0, 1, 2, 3, 4, 5] (by decide) rfl, hS, lv_sub hl [1, 0] rfl⟩
    clear hP hD hS hl
    obtain ⟨L54l1, L54a5, en_6, zL54l1, L54a5h0, hP, hD, hS, hl⟩ := hI
    refine lv_iload_n hx hb dX12_lays_54 rfl (lv_at hl 1 rfl) ?_
    refine lv_aload_n hx hb dX12_lays_55 rfl (lv_at hl 0 rfl) ?_
    refine va_get (D := D) (ci := 12) (v := .ref m17) (C := RX12) (T := TX12) (N := 42) hx hb hts iT_X12 hown hK hP 0 rfl rfl 17 (by decide) (hts _ tw_6_70) (fun _ h9 => h9) rfl dX12_lays_56 ?_
    refine lv_iconst (v := 2) hx hb dX12_lays_59 (by decide) ?_
    refine va_iald hx hb hK hP 1 0 rfl rfl (z_in (by decide) (by decide)) dX12_lays_60 ?_
    refine lv_topi (fun x_7 ex_7 => ?_)
    have zx_7r2 : 0 ≤ x_7.toInt ∧ x_7.toInt ≤ 4 := by rw [ex_7]; exact PR.ld hp_f17_2 (by decide) (by decide) (by decide)
    refine lv_icmp_ge (tgt := 86) hx hb dX12_lays_61 (by decide) (fun h_8 => ?_) (fun h_8 => ?_)
    · skip
      have zh_8 : x_7.toInt ≤ L54l1.toInt := z_le h_8
      refine lv_iconst (v := 0) hx hb dX12_lays_86 (by decide) ?_
      refine lv_istore_n (lv' := [(1, .int 0), (0, .ref mo)]) hx hb dX12_lays_87 rfl hl (by decide) rfl (fun ls hl => ?_)
      refine loop_r (Wg := fun H locs ls => W p l e _ s m _ below meth c H locs _ _ _ (F0 m 88 ls [])) (fun n9 H locs ls => ∃ (L88l1 : Int32) (L88f0x24 : Int32) (L88a5 : Nat → Int32), n9 = (40 - L88l1.toInt).toNat ∧ (0 ≤ L88l1.toInt ∧ L88l1.toInt ≤ 40) ∧ (0 ≤ L88f0x24.toInt ∧ L88f0x24.toInt ≤ 1023) ∧ (PR 4 1 0 0 99 L88a5) ∧ va_P D vwCl [(mo, .inr (12, [.int v0, .ref m1, .ref m2, .ref m3, .ref m4, .ref m5, .int v6, .int v7, .int v8, .int v9, .int v10, .long v11, .int v12, .int v13, .int v14, .int v15, .ref m16, .ref m17, .ref m18, .ref m19, .ref m20, .ref m21, .ref m22, .ref m23, .int L88f0x24, .ref m25, .ref m26, .ref m27, .ref m28, .ref m29, .int v30, .ref m31, .ref m32, .ref m33, .int v34, .int v35, .int v36, .ref m37, .ref m38, .ref m39, .ref m40, .long v41])), (m17, .inl (k 0, 30, .inl f17)), (m18, .inl (k 0, 250, .inl f18)), (m19, .inl (k 0, 40, .inl f19)), (m22, .inl (k 0, 600, .inl f22)), (m25, .inl (k 0, 4, .inl L88a5))] H ∧ va_D A [(mo, .inr (12, [.int v0, .ref m1, .ref m2, .ref m3, .ref m4, .ref m5, .int v6, .int v7, .int v8, .int v9, .int v10, .long v11, .int v12, .int v13, .int v14, .int v15, .ref m16, .ref m17, .ref m18, .ref m19, .ref m20, .ref m21, .ref m22, .ref m23, .int L88f0x24, .ref m25, .ref m26, .ref m27, .ref m28, .ref m29, .int v30, .ref m31, .ref m32, .ref m33, .int v34, .int v35, .int v36, .ref m37, .ref m38, .ref m39, .ref m40, .long v41])), (m17, .inl (k 0, 30, .inl f17)), (m18, .inl (k 0, 250, .inl f18)), (m19, .inl (k 0, 40, .inl f19)), (m22, .inl (k 0, 600, .inl f22)), (m25, .inl (k 0, 4, .inl L88a5))] ∧ va_S A s.heap H locs ∧ lv_has ls 4 [(0, .ref mo), (1, .int L88l1)]) (fun n9 H locs ls hI ih_9 => ?_) _ _ _ _ ⟨0, L7f0x24, L54a5, rfl, (show 0 ≤ 0 ∧ 0 ≤ 40 from by omega), (show 0 ≤ L7f0x24.toInt ∧ L7f0x24.toInt ≤ 1023 from by omega), L54a5h0, hP.sub (ws' := [(mo, .inr (12, [.int v0, .ref m1, .ref m2, .ref m3, .ref m4, .ref m5, .int v6, .int v7, .int v8, .int v9, .int v10, .long v11, .int v12, .int v13, .int v14, .int v15, .ref m16, .ref m17, .ref m18, .ref m19, .ref m20, .ref m21, .ref m22, .ref m23, .int L7f0x24, .ref m25, .ref m26, .ref m27, .ref m28, .ref m29, .int v30, .ref m31, .ref m32, .ref m33, .int v34, .int v35, .int v36, .ref m37, .ref m38, .ref m39, .ref m40, .long v41])), (m17, .inl (k 0, 30, .inl f17)), (m18, .inl (k 0, 250, .inl f18)), (m19, .inl (k 0, 40, .inl f19)), (m22, .inl (k 0, 600, .inl f22)), (m25, .inl (k 0, 4, .inl L54a5))]) [0, 1, 2, 3, 4, 5] rfl, hD.sub (ws' := [(mo, .inr (12, [.int v0, .ref m1, .ref m2, .ref m3, .ref m4, .ref m5, .int v6, .int v7, .int v8, .int v9, .int v10, .long v11, .int v12, .int v13, .int v14, .int v15, .ref m16, .ref m17, .ref m18, .ref m19, .ref m20, .ref m21, .ref m22, .ref m23, .int L7f0x24, .ref m25, .ref m26, .ref m27, .ref m28, .ref m29, .int v30, .ref m31, .ref m32, .ref m33, .int v34, .int v35, .int v36, .ref m37, .ref m38, .ref m39, .ref m40, .long v41])), (m17, .inl (k 0, 30, .inl f17)), (m18, .inl (k 0, 250, .inl f18)), (m19, .inl (k 0, 40, .inl f19)), (m22, .inl (k 0, 600, .inl f22)), (m25, .inl (k 0, 4, .inl L54a5))]) [0, 1, 2, 3, 4, 5] (by decide) rfl, hS, lv_sub hl [1, 0] rfl⟩
      clear hP hD hS hl
      obtain ⟨L88l1, L88f0x24, L88a5, en_10, zL88l1, zL88f0x24, L88a5h0, hP, hD, hS, hl⟩ := hI
      refine lv_iload_n hx hb dX12_lays_88 rfl (lv_at hl 1 rfl) ?_
      refine lv_aload_n hx hb dX12_lays_89 rfl (lv_at hl 0 rfl) ?_
      refine va_get (D := D) (ci := 12) (v := .ref m17) (C := RX12) (T := TX12) (N := 42) hx hb hts iT_X12 hown hK hP 0 rfl rfl 17 (by decide) (hts _ tw_6_70) (fun _ h9 => h9) rfl dX12_lays_90 ?_
      refine lv_iconst (v := 5) hx hb dX12_lays_93 (by decide) ?_
      refine va_iald hx hb hK hP 1 0 rfl rfl (z_in (by decide) (by decide)) dX12_lays_94 ?_
      refine lv_topi (fun x_11 ex_11 => ?_)
      have zx_11r5 : 0 ≤ x_11.toInt ∧ x_11.toInt ≤ 40 := by rw [ex_11]; exact PR.ld hp_f17_5 (by decide) (by decide) (by decide)
      refine lv_icmp_ge (tgt := 178) hx hb dX12_lays_95 (by decide) (fun h_12 => ?_) (fun h_12 => ?_)
      · skip
        have zh_12 : x_11.toInt ≤ L88l1.toInt := z_le h_12
        have hP9 := hP.sub (ws' := [(mo, .inr (12, [.int v0, .ref m1, .ref m2, .ref m3, .ref m4, .ref m5, .int v6, .int v7, .int v8, .int v9, .int v10, .long v11, .int v12, .int v13, .int v14, .int v15, .ref m16, .ref m17, .ref m18, .ref m19, .ref m20, .ref m21, .ref m22, .ref m23, .int L88f0x24, .ref m25, .ref m26, .ref m27, .ref m28, .ref m29, .int v30, .ref m31, .ref m32, .ref m33, .int v34, .int v35, .int v36, .ref m37, .ref m38, .ref m39, .ref m40, .long v41])), (m17, .inl (k 0, 30, .inl f17)), (m18, .inl (k 0, 250, .inl f18)), (m19, .inl (k 0, 40, .inl f19)), (m22, .inl (k 0, 600, .inl f22)), (m25, .inl (k 0, 4, .inl L88a5))]) [0, 1, 2, 3, 4, 5] rfl
        have hD9 := hD.sub (ws' := [(mo, .inr (12, [.int v0, .ref m1, .ref m2, .ref m3, .ref m4, .ref m5, .int v6, .int v7, .int v8, .int v9, .int v10, .long v11, .int v12, .int v13, .int v14, .int v15, .ref m16, .ref m17, .ref m18, .ref m19, .ref m20, .ref m21, .ref m22, .ref m23, .int L88f0x24, .ref m25, .ref m26, .ref m27, .ref m28, .ref m29, .int v30, .ref m31, .ref m32, .ref m33, .int v34, .int v35, .int v36, .ref m37, .ref m38, .ref m39, .ref m40, .long v41])), (m17, .inl (k 0, 30, .inl f17)), (m18, .inl (k 0, 250, .inl f18)), (m19, .inl (k 0, 40, .inl f19)), (m22, .inl (k 0, 600, .inl f22)), (m25, .inl (k 0, 4, .inl L88a5))]) [0, 1, 2, 3, 4, 5] (by decide) rfl
        exact W.vret hx hb hr (fun tZ ht hW => ⟨⟨(L88f0x24, L88a5), rfl, ⟨(show 0 ≤ L88f0x24.toInt ∧ L88f0x24.toInt ≤ 1023 from by omega), L88a5h0⟩, by rw [ht]; exact hP9, va_K.moved hW.alike hK, hD9⟩, hS.F ht⟩) hS.2.2 dX12_lays_178
      · skip
        have zh_12 : L88l1.toInt < x_11.toInt := z_nle h_12
        refine lv_aload_n hx hb dX12_lays_98 rfl (lv_at hl 0 rfl) ?_
        refine va_get (D := D) (ci := 12) (v := .ref m22) (C := RX12) (T := TX12) (N := 42) hx hb hts iT_X12 hown hK hP 0 rfl rfl 22 (by decide) (hts _ tw_6_75) (fun _ h9 => h9) rfl dX12_lays_99 ?_
        refine lv_iconst (v := 3) hx hb dX12_lays_102 (by decide) ?_
        refine lv_iload_n hx hb dX12_lays_103 rfl (lv_at hl 1 rfl) ?_
        refine lv_imul hx hb dX12_lays_104 ?_
        refine lv_topi (fun x_13 ex_13 => ?_)
        have zx_13 : x_13.toInt = 3 * L88l1.toInt := by rw [ex_13]; exact z_mul rfl rfl (by omega) (by omega)
        refine lv_iconst (v := 1) hx hb dX12_lays_105 (by decide) ?_
        refine lv_iadd hx hb dX12_lays_106 ?_
        refine lv_topi (fun x_14 ex_14 => ?_)
        have zx_14 : x_14.toInt = x_13.toInt + 1 := by rw [ex_14]; exact z_add rfl rfl (by omega) (by omega)
        refine va_iald hx hb hK hP 4 0 rfl rfl (z_in (by omega) (by omega)) dX12_lays_107 ?_
        refine lv_topi (fun x_15 ex_15 => ?_)
        have zx_15r1 : 0 ≤ x_15.toInt ∧ x_15.toInt ≤ 9 := by rw [ex_15]; exact PR.ld hp_f22_0 (by omega) (by omega) (by omega)
        refine lv_istore_n (lv' := [(2, .int x_15), (0, .ref mo), (1, .int L88l1)]) hx hb dX12_lays_108 rfl hl (by decide) rfl (fun ls hl => ?_)
        refine lv_aload_n hx hb dX12_lays_109 rfl (lv_at hl 1 rfl) ?_
        refine va_get (D := D) (ci := 12) (v := .ref m22) (C := RX12) (T := TX12) (N := 42) hx hb hts iT_X12 hown hK hP 0 rfl rfl 22 (by decide) (hts _ tw_6_75) (fun _ h9 => h9) rfl dX12_lays_110 ?_
        refine lv_iconst (v := 3) hx hb dX12_lays_113 (by decide) ?_
        refine lv_iload_n hx hb dX12_lays_114 rfl (lv_at hl 2 rfl) ?_
        refine lv_imul hx hb dX12_lays_115 ?_
        refine lv_topi (fun x_16 ex_16 => ?_)
        obtain rfl : x_13 = x_16 := ex_13.trans ex_16.symm
        refine lv_iconst (v := 2) hx hb dX12_lays_116 (by decide) ?_
        refine lv_iadd hx hb dX12_lays_117 ?_
        refine lv_topi (fun x_17 ex_17 => ?_)
        have zx_17 : x_17.toInt = x_13.toInt + 2 := by rw [ex_17]; exact z_add rfl rfl (by omega) (by omega)
        refine va_iald hx hb hK hP 4 0 rfl rfl (z_in (by omega) (by omega)) dX12_lays_118 ?_
        refine lv_topi (fun x_18 ex_18 => ?_)
        have zx_18r2 : 0 ≤ x_18.toInt ∧ x_18.toInt ≤ 99 := by rw [ex_18]; exact PR.ld hp_f22_1 (by omega) (by omega) (by omega)
        refine lv_istore_n (lv' := [(3, .int x_18), (2, .int x_15), (0, .ref mo), (1, .int L88l1)]) hx hb dX12_lays_119 rfl hl (by decide) rfl (fun ls hl => ?_)
        refine lv_aload_n hx hb dX12_lays_120 rfl (lv_at hl 2 rfl) ?_
        refine va_get (D := D) (ci := 12) (v := .ref m22) (C := RX12) (T := TX12) (N := 42) hx hb hts iT_X12 hown hK hP 0 rfl rfl 22 (by decide) (hts _ tw_6_75) (fun _ h9 => h9) rfl dX12_lays_121 ?_
        refine lv_iconst (v := 3) hx hb dX12_lays_124 (by decide) ?_
        refine lv_iload_n hx hb dX12_lays_125 rfl (lv_at hl 3 rfl) ?_
        refine lv_imul hx hb dX12_lays_126 ?_
        refine lv_topi (fun x_19 ex_19 => ?_)
        obtain rfl : x_13 = x_19 := ex_13.trans ex_19.symm
        refine va_iald hx hb hK hP 4 0 rfl rfl (z_in (by omega) (by omega)) dX12_lays_127 ?_
        refine lv_topi (fun x_20 ex_20 => ?_)
        refine lv_iconst (v := 1) hx hb dX12_lays_128 (by decide) ?_
        refine lv_icmp_ne (tgt := 142) hx hb dX12_lays_129 (by decide) (fun h_21 => ?_) (fun h_21 => ?_)
        · skip
          have zh_21 : ¬ x_20.toInt = 1 := z_ne h_21
          refine lv_aload_n hx hb dX12_lays_142 rfl (lv_at hl 2 rfl) ?_
          refine lv_iload_n hx hb dX12_lays_143 rfl (lv_at hl 0 rfl) ?_
          refine lv_iconst (v := 1) hx hb dX12_lays_144 (by decide) ?_
          refine lv_icmp_ne (tgt := 161) hx hb dX12_lays_145 (by decide) (fun h_22 => ?_) (fun h_22 => ?_)
          · skip
            have zh_22 : ¬ x_18.toInt = 1 := z_ne h_22
            refine lv_aload_n hx hb dX12_lays_161 rfl (lv_at hl 2 rfl) ?_
            refine va_get (D := D) (ci := 12) (v := .int L88f0x24) (C := RX12) (T := TX12) (N := 42) hx hb hts iT_X12 hown hK hP 0 rfl rfl 24 (by decide) (hts _ tw_6_77) (fun _ h9 => h9) rfl dX12_lays_162 ?_
            refine lv_iconst (v := 1) hx hb dX12_lays_165 (by decide) ?_
            refine lv_iload_n hx hb dX12_lays_166 rfl (lv_at hl 1 rfl) ?_
            refine lv_ishl hx hb dX12_lays_167 ?_
            refine lv_topi (fun x_23 ex_23 => ?_)
            have zx_23 : 1 ≤ x_23.toInt ∧ x_23.toInt ≤ 512 := by rw [ex_23]; exact z_shl1 9 512 rfl (by decide) (by omega) (by omega)
            refine lv_ior hx hb dX12_lays_168 ?_
            refine lv_topi (fun x_24 ex_24 => ?_)
            have zx_24 : 0 ≤ x_24.toInt ∧ x_24.toInt < 1024 := by rw [ex_24]; exact z_or 10 1024 rfl (by decide) ⟨by omega, by omega⟩ ⟨by omega, by omega⟩
            refine va_put (D := D) (ci := 12) (v := .int x_24) (ty := tyX12 24) (C := RX12) (T := TX12) (N := 42) hx hb hts iT_X12 tyX12 tyX12_ok nmX12 hown hK hP hD hS 0 rfl rfl 24 (by decide) (hts _ tw_6_77) (fun _ h9 => h9) rfl (tyX12_ok 24 (by decide)) rfl rfl (Nat.le_of_ble_eq_true rfl) dX12_lays_169 (fun H locs hP hD hS => ?_)
            have hP : va_P D vwCl [(mo, .inr (12, [.int v0, .ref m1, .ref m2, .ref m3, .ref m4, .ref m5, .int v6, .int v7, .int v8, .int v9, .int v10, .long v11, .int v12, .int v13, .int v14, .int v15, .ref m16, .ref m17, .ref m18, .ref m19, .ref m20, .ref m21, .ref m22, .ref m23, .int x_24, .ref m25, .ref m26, .ref m27, .ref m28, .ref m29, .int v30, .ref m31, .ref m32, .ref m33, .int v34, .int v35, .int v36, .ref m37, .ref m38, .ref m39, .ref m40, .long v41])), (m17, .inl (k 0, 30, .inl f17)), (m18, .inl (k 0, 250, .inl f18)), (m19, .inl (k 0, 40, .inl f19)), (m22, .inl (k 0, 600, .inl f22)), (m25, .inl (k 0, 4, .inl L88a5))] H := hP
            have hD : va_D A [(mo, .inr (12, [.int v0, .ref m1, .ref m2, .ref m3, .ref m4, .ref m5, .int v6, .int v7, .int v8, .int v9, .int v10, .long v11, .int v12, .int v13, .int v14, .int v15, .ref m16, .ref m17, .ref m18, .ref m19, .ref m20, .ref m21, .ref m22, .ref m23, .int x_24, .ref m25, .ref m26, .ref m27, .ref m28, .ref m29, .int v30, .ref m31, .ref m32, .ref m33, .int v34, .int v35, .int v36, .ref m37, .ref m38, .ref m39, .ref m40, .long v41])), (m17, .inl (k 0, 30, .inl f17)), (m18, .inl (k 0, 250, .inl f18)), (m19, .inl (k 0, 40, .inl f19)), (m22, .inl (k 0, 600, .inl f22)), (m25, .inl (k 0, 4, .inl L88a5))] := hD
            obtain ⟨x_25, ex_25⟩ : ∃ y : Int32, y = L88l1 + 1 := ⟨_, rfl⟩
            have zx_25 : x_25.toInt = L88l1.toInt + 1 := by rw [ex_25]; exact z_add rfl rfl (by omega) (by omega)
            refine lv_iinc (v := x_25) (lv' := [(1, .int x_25), (3, .int x_18), (2, .int x_15), (0, .ref mo)]) hx hb dX12_lays_172 hl (k := 3) rfl (by rw [ex_25]; rfl) (by decide) rfl (fun ls hl => ?_)
            refine lv_goto (tgt := 88) hx hb dX12_lays_175 (by decide) ?_
            exact ih_9 _ _ _ _ (by omega) ⟨x_25, x_24, L88a5, rfl, (show 0 ≤ x_25.toInt ∧ x_25.toInt ≤ 40 from by omega), (show 0 ≤ x_24.toInt ∧ x_24.toInt ≤ 1023 from by omega), L88a5h0, hP.sub (ws' := [(mo, .inr (12, [.int v0, .ref m1, .ref m2, .ref m3, .ref m4, .ref m5, .int v6, .int v7, .int v8, .int v9, .int v10, .long v11, .int v12, .int v13, .int v14, .int v15, .ref m16, .ref m17, .ref m18, .ref m19, .ref m20, .ref m21, .ref m22, .ref m23, .int x_24, .ref m25, .ref m26, .ref m27, .ref m28, .ref m29, .int v30, .ref m31, .ref m32, .ref m33, .int v34, .int v35, .int v36, .ref m37, .ref m38, .ref m39, .ref m40, .long v41])), (m17, .inl (k 0, 30, .inl f17)), (m18, .inl (k 0, 250, .inl f18)), (m19, .inl (k 0, 40, .inl f19)), (m22, .inl (k 0, 600, .inl f22)), (m25, .inl (k 0, 4, .inl L88a5))]) [0, 1, 2, 3, 4, 5] rfl, hD.sub (ws' := [(mo, .inr (12, [.int v0, .ref m1, .ref m2, .ref m3, .ref m4, .ref m5, .int v6, .int v7, .int v8, .int v9, .int v10, .long v11, .int v12, .int v13, .int v14, .int v15, .ref m16, .ref m17, .ref m18, .ref m19, .ref m20, .ref m21, .ref m22, .ref m23, .int x_24, .ref m25, .ref m26, .ref m27, .ref m28, .ref m29, .int v30, .ref m31, .ref m32, .ref m33, .int v34, .int v35, .int v36, .ref m37, .ref m38, .ref m39, .ref m40, .long v41])), (m17, .inl (k 0, 30, .inl f17)), (m18, .inl (k 0, 250, .inl f18)), (m19, .inl (k 0, 40, .inl f19)), (m22, .inl (k 0, 600, .inl f22)), (m25, .inl (k 0, 4, .inl L88a5))]) [0, 1, 2, 3, 4, 5] (by decide) rfl, hS, lv_sub hl [3, 0] rfl⟩
          · skip
            have zh_22 : x_18.toInt = 1 := z_eq h_22
            refine lv_aload_n hx hb dX12_lays_148 rfl (lv_at hl 2 rfl) ?_
            refine va_get (D := D) (ci := 12) (v := .int L88f0x24) (C := RX12) (T := TX12) (N := 42) hx hb hts iT_X12 hown hK hP 0 rfl rfl 24 (by decide) (hts _ tw_6_77) (fun _ h9 => h9) rfl dX12_lays_149 ?_
            refine lv_iconst (v := 1) hx hb dX12_lays_152 (by decide) ?_
            refine lv_iload_n hx hb dX12_lays_153 rfl (lv_at hl 1 rfl) ?_
            refine lv_ishl hx hb dX12_lays_154 ?_
            refine lv_topi (fun x_26 ex_26 => ?_)
            have zx_26 : 1 ≤ x_26.toInt ∧ x_26.toInt ≤ 512 := by rw [ex_26]; exact z_shl1 9 512 rfl (by decide) (by omega) (by omega)
            refine lv_iconst (v := (-1)) hx hb dX12_lays_155 (by decide) ?_
            refine lv_ixor hx hb dX12_lays_156 ?_
            refine lv_topi (fun x_27 ex_27 => ?_)
            refine lv_iand hx hb dX12_lays_157 ?_
            refine lv_topi (fun x_28 ex_28 => ?_)
            have zrx_27 := z_rng x_27
            have zx_28 : 0 ≤ x_28.toInt ∧ x_28.toInt ≤ L88f0x24.toInt := by rw [ex_28]; exact z_andL (by omega)
            refine lv_goto (tgt := 169) hx hb dX12_lays_158 (by decide) ?_
            refine va_put (D := D) (ci := 12) (v := .int x_28) (ty := tyX12 24) (C := RX12) (T := TX12) (N := 42) hx hb hts iT_X12 tyX12 tyX12_ok nmX12 hown hK hP hD hS 0 rfl rfl 24 (by decide) (hts _ tw_6_77) (fun _ h9 => h9) rfl (tyX12_ok 24 (by decide)) rfl rfl (Nat.le_of_ble_eq_true rfl) dX12_lays_169 (fun H locs hP hD hS => ?_)
            have hP : va_P D vwCl [(mo, .inr (12, [.int v0, .ref m1, .ref m2, .ref m3, .ref m4, .ref m5, .int v6, .int v7, .int v8, .int v9, .int v10, .long v11, .int v12, .int v13, .int v14, .int v15, .ref m16, .ref m17, .ref m18, .ref m19, .ref m20, .ref m21, .ref m22, .ref m23, .int x_28, .ref m25, .ref m26, .ref m27, .ref m28, .ref m29, .int v30, .ref m31, .ref m32, .ref m33, .int v34, .int v35, .int v36, .ref m37, .ref m38, .ref m39, .ref m40, .long v41])), (m17, .inl (k 0, 30, .inl f17)), (m18, .inl (k 0, 250, .inl f18)), (m19, .inl (k 0, 40, .inl f19)), (m22, .inl (k 0, 600, .inl f22)), (m25, .inl (k 0, 4, .inl L88a5))] H := hP
            have hD : va_D A [(mo, .inr (12, [.int v0, .ref m1, .ref m2, .ref m3, .ref m4, .ref m5, .int v6, .int v7, .int v8, .int v9, .int v10, .long v11, .int v12, .int v13, .int v14, .int v15, .ref m16, .ref m17, .ref m18, .ref m19, .ref m20, .ref m21, .ref m22, .ref m23, .int x_28, .ref m25, .ref m26, .ref m27, .ref m28, .ref m29, .int v30, .ref m31, .ref m32, .ref m33, .int v34, .int v35, .int v36, .ref m37, .ref m38, .ref m39, .ref m40, .long v41])), (m17, .inl (k 0, 30, .inl f17)), (m18, .inl (k 0, 250, .inl f18)), (m19, .inl (k 0, 40, .inl f19)), (m22, .inl (k 0, 600, .inl f22)), (m25, .inl (k 0, 4, .inl L88a5))] := hD
            obtain ⟨x_29, ex_29⟩ : ∃ y : Int32, y = L88l1 + 1 := ⟨_, rfl⟩
            have zx_29 : x_29.toInt = L88l1.toInt + 1 := by rw [ex_29]; exact z_add rfl rfl (by omega) (by omega)
            refine lv_iinc (v := x_29) (lv' := [(1, .int x_29), (3, .int x_18), (2, .int x_15), (0, .ref mo)]) hx hb dX12_lays_172 hl (k := 3) rfl (by rw [ex_29]; rfl) (by decide) rfl (fun ls hl => ?_)
            refine lv_goto (tgt := 88) hx hb dX12_lays_175 (by decide) ?_
            exact ih_9 _ _ _ _ (by omega) ⟨x_29, x_28, L88a5, rfl, (show 0 ≤ x_29.toInt ∧ x_29.toInt ≤ 40 from by omega), (show 0 ≤ x_28.toInt ∧ x_28.toInt ≤ 1023 from by omega), L88a5h0, hP.sub (ws' := [(mo, .inr (12, [.int v0, .ref m1, .ref m2, .ref m3, .ref m4, .ref m5, .int v6, .int v7, .int v8, .int v9, .int v10, .long v11, .int v12, .int v13, .int v14, .int v15, .ref m16, .ref m17, .ref m18, .ref m19, .ref m20, .ref m21, .ref m22, .ref m23, .int x_28, .ref m25, .ref m26, .ref m27, .ref m28, .ref m29, .int v30, .ref m31, .ref m32, .ref m33, .int v34, .int v35, .int v36, .ref m37, .ref m38, .ref m39, .ref m40, .long v41])), (m17, .inl (k 0, 30, .inl f17)), (m18, .inl (k 0, 250, .inl f18)), (m19, .inl (k 0, 40, .inl f19)), (m22, .inl (k 0, 600, .inl f22)), (m25, .inl (k 0, 4, .inl L88a5))]) [0, 1, 2, 3, 4, 5] rfl, hD.sub (ws' := [(mo, .inr (12, [.int v0, .ref m1, .ref m2, .ref m3, .ref m4, .ref m5, .int v6, .int v7, .int v8, .int v9, .int v10, .long v11, .int v12, .int v13, .int v14, .int v15, .ref m16, .ref m17, .ref m18, .ref m19, .ref m20, .ref m21, .ref m22, .ref m23, .int x_28, .ref m25, .ref m26, .ref m27, .ref m28, .ref m29, .int v30, .ref m31, .ref m32, .ref m33, .int v34, .int v35, .int v36, .ref m37, .ref m38, .ref m39, .ref m40, .long v41])), (m17, .inl (k 0, 30, .inl f17)), (m18, .inl (k 0, 250, .inl f18)), (m19, .inl (k 0, 40, .inl f19)), (m22, .inl (k 0, 600, .inl f22)), (m25, .inl (k 0, 4, .inl L88a5))]) [0, 1, 2, 3, 4, 5] (by decide) rfl, hS, lv_sub hl [3, 0] rfl⟩
        · skip
          have zh_21 : x_20.toInt = 1 := z_eq h_21
          refine lv_aload_n hx hb dX12_lays_132 rfl (lv_at hl 2 rfl) ?_
          refine va_get (D := D) (ci := 12) (v := .ref m25) (C := RX12) (T := TX12) (N := 42) hx hb hts iT_X12 hown hK hP 0 rfl rfl 25 (by decide) (hts _ tw_6_78) (fun _ h9 => h9) rfl dX12_lays_133 ?_
          refine lv_iload_n hx hb dX12_lays_136 rfl (lv_at hl 1 rfl) ?_
          refine lv_iload_n hx hb dX12_lays_137 rfl (lv_at hl 0 rfl) ?_
          have zak : x_15.toInt ≤ 3 := by rw [ex_15]; exact AK.use hp_f22_2 (i := x_13) (j := x_14) (by omega) (by omega) (by omega) (by omega) (by rw [← ex_20]; exact h_21)
          refine va_iast hx hb hK hP hD hS 5 0 rfl rfl (z_in (by omega) (by omega)) dX12_lays_138 (fun H locs hP hD hS => ?_)
          obtain ⟨g_30, eg_30⟩ : ∃ z : Nat → Int32, upd L88a5 x_15.toNatClampNeg x_18 = z := ⟨_, rfl⟩
          have hP : va_P D vwCl [(mo, .inr (12, [.int v0, .ref m1, .ref m2, .ref m3, .ref m4, .ref m5, .int v6, .int v7, .int v8, .int v9, .int v10, .long v11, .int v12, .int v13, .int v14, .int v15, .ref m16, .ref m17, .ref m18, .ref m19, .ref m20, .ref m21, .ref m22, .ref m23, .int L88f0x24, .ref m25, .ref m26, .ref m27, .ref m28, .ref m29, .int v30, .ref m31, .ref m32, .ref m33, .int v34, .int v35, .int v36, .ref m37, .ref m38, .ref m39, .ref m40, .long v41])), (m17, .inl (k 0, 30, .inl f17)), (m18, .inl (k 0, 250, .inl f18)), (m19, .inl (k 0, 40, .inl f19)), (m22, .inl (k 0, 600, .inl f22)), (m25, .inl (k 0, 4, .inl (upd L88a5 x_15.toNatClampNeg x_18)))] H := hP
          have hD : va_D A [(mo, .inr (12, [.int v0, .ref m1, .ref m2, .ref m3, .ref m4, .ref m5, .int v6, .int v7, .int v8, .int v9, .int v10, .long v11, .int v12, .int v13, .int v14, .int v15, .ref m16, .ref m17, .ref m18, .ref m19, .ref m20, .ref m21, .ref m22, .ref m23, .int L88f0x24, .ref m25, .ref m26, .ref m27, .ref m28, .ref m29, .int v30, .ref m31, .ref m32, .ref m33, .int v34, .int v35, .int v36, .ref m37, .ref m38, .ref m39, .ref m40, .long v41])), (m17, .inl (k 0, 30, .inl f17)), (m18, .inl (k 0, 250, .inl f18)), (m19, .inl (k 0, 40, .inl f19)), (m22, .inl (k 0, 600, .inl f22)), (m25, .inl (k 0, 4, .inl (upd L88a5 x_15.toNatClampNeg x_18)))] := hD
          rw [eg_30] at hP hD
          have hp_31 : PR 4 1 0 0 99 g_30 := by rw [← eg_30]; exact PR.put L88a5h0 ⟨by omega, by omega⟩
          refine lv_goto (tgt := 172) hx hb dX12_lays_139 (by decide) ?_
          obtain ⟨x_32, ex_32⟩ : ∃ y : Int32, y = L88l1 + 1 := ⟨_, rfl⟩
          have zx_32 : x_32.toInt = L88l1.toInt + 1 := by rw [ex_32]; exact z_add rfl rfl (by omega) (by omega)
          refine lv_iinc (v := x_32) (lv' := [(1, .int x_32), (3, .int x_18), (2, .int x_15), (0, .ref mo)]) hx hb dX12_lays_172 hl (k := 3) rfl (by rw [ex_32]; rfl) (by decide) rfl (fun ls hl => ?_)
          refine lv_goto (tgt := 88) hx hb dX12_lays_175 (by decide) ?_
          exact ih_9 _ _ _ _ (by omega) ⟨x_32, L88f0x24, g_30, rfl, (show 0 ≤ x_32.toInt ∧ x_32.toInt ≤ 40 from by omega), (show 0 ≤ L88f0x24.toInt ∧ L88f0x24.toInt ≤ 1023 from by omega), hp_31, hP.sub (ws' := [(mo, .inr (12, [.int v0, .ref m1, .ref m2, .ref m3, .ref m4, .ref m5, .int v6, .int v7, .int v8, .int v9, .int v10, .long v11, .int v12, .int v13, .int v14, .int v15, .ref m16, .ref m17, .ref m18, .ref m19, .ref m20, .ref m21, .ref m22, .ref m23, .int L88f0x24, .ref m25, .ref m26, .ref m27, .ref m28, .ref m29, .int v30, .ref m31, .ref m32, .ref m33, .int v34, .int v35, .int v36, .ref m37, .ref m38, .ref m39, .ref m40, .long v41])), (m17, .inl (k 0, 30, .inl f17)), (m18, .inl (k 0, 250, .inl f18)), (m19, .inl (k 0, 40, .inl f19)), (m22, .inl (k 0, 600, .inl f22)), (m25, .inl (k 0, 4, .inl g_30))]) [0, 1, 2, 3, 4, 5] rfl, hD.sub (ws' := [(mo, .inr (12, [.int v0, .ref m1, .ref m2, .ref m3, .ref m4, .ref m5, .int v6, .int v7, .int v8, .int v9, .int v10, .long v11, .int v12, .int v13, .int v14, .int v15, .ref m16, .ref m17, .ref m18, .ref m19, .ref m20, .ref m21, .ref m22, .ref m23, .int L88f0x24, .ref m25, .ref m26, .ref m27, .ref m28, .ref m29, .int v30, .ref m31, .ref m32, .ref m33, .int v34, .int v35, .int v36, .ref m37, .ref m38, .ref m39, .ref m40, .long v41])), (m17, .inl (k 0, 30, .inl f17)), (m18, .inl (k 0, 250, .inl f18)), (m19, .inl (k 0, 40, .inl f19)), (m22, .inl (k 0, 600, .inl f22)), (m25, .inl (k 0, 4, .inl g_30))]) [0, 1, 2, 3, 4, 5] (by decide) rfl, hS, lv_sub hl [3, 0] rfl⟩
    · skip
      have zh_8 : L54l1.toInt < x_7.toInt := z_nle h_8
      refine lv_aload_n hx hb dX12_lays_64 rfl (lv_at hl 0 rfl) ?_
      refine va_get (D := D) (ci := 12) (v := .ref m25) (C := RX12) (T := TX12) (N := 42) hx hb hts iT_X12 hown hK hP 0 rfl rfl 25 (by decide) (hts _ tw_6_78) (fun _ h9 => h9) rfl dX12_lays_65 ?_
      refine lv_iload_n hx hb dX12_lays_68 rfl (lv_at hl 1 rfl) ?_
      refine lv_aload_n hx hb dX12_lays_69 rfl (lv_at hl 0 rfl) ?_
      refine va_get (D := D) (ci := 12) (v := .ref m19) (C := RX12) (T := TX12) (N := 42) hx hb hts iT_X12 hown hK hP 0 rfl rfl 19 (by decide) (hts _ tw_6_72) (fun _ h9 => h9) rfl dX12_lays_70 ?_
      refine lv_iconst (v := 2) hx hb dX12_lays_73 (by decide) ?_
      refine lv_iload_n hx hb dX12_lays_74 rfl (lv_at hl 1 rfl) ?_
      refine lv_imul hx hb dX12_lays_75 ?_
      refine lv_topi (fun x_33 ex_33 => ?_)
      have zx_33 : x_33.toInt = 2 * L54l1.toInt := by rw [ex_33]; exact z_mul rfl rfl (by omega) (by omega)
      refine lv_iconst (v := 1) hx hb dX12_lays_76 (by decide) ?_
      refine lv_iadd hx hb dX12_lays_77 ?_
      refine lv_topi (fun x_34 ex_34 => ?_)
      have zx_34 : x_34.toInt = x_33.toInt + 1 := by rw [ex_34]; exact z_add rfl rfl (by omega) (by omega)
      refine va_iald hx hb hK hP 3 0 rfl rfl (z_in (by omega) (by omega)) dX12_lays_78 ?_
      refine lv_topi (fun x_35 ex_35 => ?_)
      have zx_35r1 : 0 ≤ x_35.toInt ∧ x_35.toInt ≤ 99 := by rw [ex_35]; exact PR.ld hp_f19_1 (by omega) (by omega) (by omega)
      refine va_iast hx hb hK hP hD hS 5 0 rfl rfl (z_in (by omega) (by omega)) dX12_lays_79 (fun H locs hP hD hS => ?_)
      obtain ⟨g_36, eg_36⟩ : ∃ z : Nat → Int32, upd L54a5 L54l1.toNatClampNeg x_35 = z := ⟨_, rfl⟩
      have hP : va_P D vwCl [(mo, .inr (12, [.int v0, .ref m1, .ref m2, .ref m3, .ref m4, .ref m5, .int v6, .int v7, .int v8, .int v9, .int v10, .long v11, .int v12, .int v13, .int v14, .int v15, .ref m16, .ref m17, .ref m18, .ref m19, .ref m20, .ref m21, .ref m22, .ref m23, .int L7f0x24, .ref m25, .ref m26, .ref m27, .ref m28, .ref m29, .int v30, .ref m31, .ref m32, .ref m33, .int v34, .int v35, .int v36, .ref m37, .ref m38, .ref m39, .ref m40, .long v41])), (m17, .inl (k 0, 30, .inl f17)), (m18, .inl (k 0, 250, .inl f18)), (m19, .inl (k 0, 40, .inl f19)), (m22, .inl (k 0, 600, .inl f22)), (m25, .inl (k 0, 4, .inl (upd L54a5 L54l1.toNatClampNeg x_35)))] H := hP
      have hD : va_D A [(mo, .inr (12, [.int v0, .ref m1, .ref m2, .ref m3, .ref m4, .ref m5, .int v6, .int v7, .int v8, .int v9, .int v10, .long v11, .int v12, .int v13, .int v14, .int v15, .ref m16, .ref m17, .ref m18, .ref m19, .ref m20, .ref m21, .ref m22, .ref m23, .int L7f0x24, .ref m25, .ref m26, .ref m27, .ref m28, .ref m29, .int v30, .ref m31, .ref m32, .ref m33, .int v34, .int v35, .int v36, .ref m37, .ref m38, .ref m39, .ref m40, .long v41])), (m17, .inl (k 0, 30, .inl f17)), (m18, .inl (k 0, 250, .inl f18)), (m19, .inl (k 0, 40, .inl f19)), (m22, .inl (k 0, 600, .inl f22)), (m25, .inl (k 0, 4, .inl (upd L54a5 L54l1.toNatClampNeg x_35)))] := hD
      rw [eg_36] at hP hD
      have hp_37 : PR 4 1 0 0 99 g_36 := by rw [← eg_36]; exact PR.put L54a5h0 ⟨by omega, by omega⟩
      obtain ⟨x_38, ex_38⟩ : ∃ y : Int32, y = L54l1 + 1 := ⟨_, rfl⟩
      have zx_38 : x_38.toInt = L54l1.toInt + 1 := by rw [ex_38]; exact z_add rfl rfl (by omega) (by omega)
      refine lv_iinc (v := x_38) (lv' := [(1, .int x_38), (0, .ref mo)]) hx hb dX12_lays_80 hl (k := 1) rfl (by rw [ex_38]; rfl) (by decide) rfl (fun ls hl => ?_)
      refine lv_goto (tgt := 54) hx hb dX12_lays_83 (by decide) ?_
      exact ih_5 _ _ _ _ (by omega) ⟨x_38, g_36, rfl, (show 0 ≤ x_38.toInt ∧ x_38.toInt ≤ 4 from by omega), hp_37, hP.sub (ws' := [(mo, .inr (12, [.int v0, .ref m1, .ref m2, .ref m3, .ref m4, .ref m5, .int v6, .int v7, .int v8, .int v9, .int v10, .long v11, .int v12, .int v13, .int v14, .int v15, .ref m16, .ref m17, .ref m18, .ref m19, .ref m20, .ref m21, .ref m22, .ref m23, .int L7f0x24, .ref m25, .ref m26, .ref m27, .ref m28, .ref m29, .int v30, .ref m31, .ref m32, .ref m33, .int v34, .int v35, .int v36, .ref m37, .ref m38, .ref m39, .ref m40, .long v41])), (m17, .inl (k 0, 30, .inl f17)), (m18, .inl (k 0, 250, .inl f18)), (m19, .inl (k 0, 40, .inl f19)), (m22, .inl (k 0, 600, .inl f22)), (m25, .inl (k 0, 4, .inl g_36))]) [0, 1, 2, 3, 4, 5] rfl, hD.sub (ws' := [(mo, .inr (12, [.int v0, .ref m1, .ref m2, .ref m3, .ref m4, .ref m5, .int v6, .int v7, .int v8, .int v9, .int v10, .long v11, .int v12, .int v13, .int v14, .int v15, .ref m16, .ref m17, .ref m18, .ref m19, .ref m20, .ref m21, .ref m22, .ref m23, .int L7f0x24, .ref m25, .ref m26, .ref m27, .ref m28, .ref m29, .int v30, .ref m31, .ref m32, .ref m33, .int v34, .int v35, .int v36, .ref m37, .ref m38, .ref m39, .ref m40, .long v41])), (m17, .inl (k 0, 30, .inl f17)), (m18, .inl (k 0, 250, .inl f18)), (m19, .inl (k 0, 40, .inl f19)), (m22, .inl (k 0, 600, .inl f22)), (m25, .inl (k 0, 4, .inl g_36))]) [0, 1, 2, 3, 4, 5] (by decide) rfl, hS, lv_sub hl [1, 0] rfl⟩
  · skip
    have zh_4 : L7l1.toInt < x_3.toInt := z_nle h_4
    refine lv_aload_n hx hb dX12_lays_17 rfl (lv_at hl 0 rfl) ?_
    refine lv_dup hx hb dX12_lays_18 rfl ?_
    refine va_get (D := D) (ci := 12) (v := .int L7f0x24) (C := RX12) (T := TX12) (N := 42) hx hb hts iT_X12 hown hK hP 0 rfl rfl 24 (by decide) (hts _ tw_6_77) (fun _ h9 => h9) rfl dX12_lays_19 ?_
    refine lv_aload_n hx hb dX12_lays_22 rfl (lv_at hl 0 rfl) ?_
    refine va_get (D := D) (ci := 12) (v := .ref m18) (C := RX12) (T := TX12) (N := 42) hx hb hts iT_X12 hown hK hP 0 rfl rfl 18 (by decide) (hts _ tw_6_71) (fun _ h9 => h9) rfl dX12_lays_23 ?_
    refine lv_iconst (v := 5) hx hb dX12_lays_26 (by decide) ?_
    refine lv_iload_n hx hb dX12_lays_27 rfl (lv_at hl 1 rfl) ?_
    refine lv_imul hx hb dX12_lays_28 ?_
    refine lv_topi (fun x_39 ex_39 => ?_)
    have zx_39 : x_39.toInt = 5 * L7l1.toInt := by rw [ex_39]; exact z_mul rfl rfl (by omega) (by omega)
    refine lv_iconst (v := 4) hx hb dX12_lays_29 (by decide) ?_
    refine lv_iadd hx hb dX12_lays_30 ?_
    refine lv_topi (fun x_40 ex_40 => ?_)
    have zx_40 : x_40.toInt = x_39.toInt + 4 := by rw [ex_40]; exact z_add rfl rfl (by omega) (by omega)
    refine va_iald hx hb hK hP 2 0 rfl rfl (z_in (by omega) (by omega)) dX12_lays_31 ?_
    refine lv_topi (fun x_41 ex_41 => ?_)
    refine lv_if_ne (tgt := 41) hx hb dX12_lays_32 (by decide) (fun h_42 => ?_) (fun h_42 => ?_)
    · skip
      have zh_42 : ¬ x_41.toInt = 0 := z_ne h_42
      refine lv_iconst (v := 0) hx hb dX12_lays_41 (by decide) ?_
      refine lv_ior hx hb dX12_lays_42 ?_
      refine lv_topi (fun x_43 ex_43 => ?_)
      have zx_43 : 0 ≤ x_43.toInt ∧ x_43.toInt < 1024 := by rw [ex_43]; exact z_or 10 1024 rfl (by decide) ⟨by omega, by omega⟩ (by decide)
      refine va_put (D := D) (ci := 12) (v := .int x_43) (ty := tyX12 24) (C := RX12) (T := TX12) (N := 42) hx hb hts iT_X12 tyX12 tyX12_ok nmX12 hown hK hP hD hS 0 rfl rfl 24 (by decide) (hts _ tw_6_77) (fun _ h9 => h9) rfl (tyX12_ok 24 (by decide)) rfl rfl (Nat.le_of_ble_eq_true rfl) dX12_lays_43 (fun H locs hP hD hS => ?_)
      have hP : va_P D vwCl [(mo, .inr (12, [.int v0, .ref m1, .ref m2, .ref m3, .ref m4, .ref m5, .int v6, .int v7, .int v8, .int v9, .int v10, .long v11, .int v12, .int v13, .int v14, .int v15, .ref m16, .ref m17, .ref m18, .ref m19, .ref m20, .ref m21, .ref m22, .ref m23, .int x_43, .ref m25, .ref m26, .ref m27, .ref m28, .ref m29, .int v30, .ref m31, .ref m32, .ref m33, .int v34, .int v35, .int v36, .ref m37, .ref m38, .ref m39, .ref m40, .long v41])), (m17, .inl (k 0, 30, .inl f17)), (m18, .inl (k 0, 250, .inl f18)), (m19, .inl (k 0, 40, .inl f19)), (m22, .inl (k 0, 600, .inl f22)), (m25, .inl (k 0, 4, .inl f25))] H := hP
      have hD : va_D A [(mo, .inr (12, [.int v0, .ref m1, .ref m2, .ref m3, .ref m4, .ref m5, .int v6, .int v7, .int v8, .int v9, .int v10, .long v11, .int v12, .int v13, .int v14, .int v15, .ref m16, .ref m17, .ref m18, .ref m19, .ref m20, .ref m21, .ref m22, .ref m23, .int x_43, .ref m25, .ref m26, .ref m27, .ref m28, .ref m29, .int v30, .ref m31, .ref m32, .ref m33, .int v34, .int v35, .int v36, .ref m37, .ref m38, .ref m39, .ref m40, .long v41])), (m17, .inl (k 0, 30, .inl f17)), (m18, .inl (k 0, 250, .inl f18)), (m19, .inl (k 0, 40, .inl f19)), (m22, .inl (k 0, 600, .inl f22)), (m25, .inl (k 0, 4, .inl f25))] := hD
      obtain ⟨x_44, ex_44⟩ : ∃ y : Int32, y = L7l1 + 1 := ⟨_, rfl⟩
      have zx_44 : x_44.toInt = L7l1.toInt + 1 := by rw [ex_44]; exact z_add rfl rfl (by omega) (by omega)
      refine lv_iinc (v := x_44) (lv' := [(1, .int x_44), (0, .ref mo)]) hx hb dX12_lays_46 hl (k := 1) rfl (by rw [ex_44]; rfl) (by decide) rfl (fun ls hl => ?_)
      refine lv_goto (tgt := 7) hx hb dX12_lays_49 (by decide) ?_
      exact ih_1 _ _ _ _ (by omega) ⟨x_44, x_43, rfl, (show 0 ≤ x_44.toInt ∧ x_44.toInt ≤ 10 from by omega), (show 0 ≤ x_43.toInt ∧ x_43.toInt ≤ 1023 from by omega), hP.sub (ws' := [(mo, .inr (12, [.int v0, .ref m1, .ref m2, .ref m3, .ref m4, .ref m5, .int v6, .int v7, .int v8, .int v9, .int v10, .long v11, .int v12, .int v13, .int v14, .int v15, .ref m16, .ref m17, .ref m18, .ref m19, .ref m20, .ref m21, .ref m22, .ref m23, .int x_43, .ref m25, .ref m26, .ref m27, .ref m28, .ref m29, .int v30, .ref m31, .ref m32, .ref m33, .int v34, .int v35, .int v36, .ref m37, .ref m38, .ref m39, .ref m40, .long v41])), (m17, .inl (k 0, 30, .inl f17)), (m18, .inl (k 0, 250, .inl f18)), (m19, .inl (k 0, 40, .inl f19)), (m22, .inl (k 0, 600, .inl f22)), (m25, .inl (k 0, 4, .inl f25))]) [0, 1, 2, 3, 4, 5] rfl, hD.sub (ws' := [(mo, .inr (12, [.int v0, .ref m1, .ref m2, .ref m3, .ref m4, .ref m5, .int v6, .int v7, .int v8, .int v9, .int v10, .long v11, .int v12, .int v13, .int v14, .int v15, .ref m16, .ref m17, .ref m18, .ref m19, .ref m20, .ref m21, .ref m22, .ref m23, .int x_43, .ref m25, .ref m26, .ref m27, .ref m28, .ref m29, .int v30, .ref m31, .ref m32, .ref m33, .int v34, .int v35, .int v36, .ref m37, .ref m38, .ref m39, .ref m40, .long v41])), (m17, .inl (k 0, 30, .inl f17)), (m18, .inl (k 0, 250, .inl f18)), (m19, .inl (k 0, 40, .inl f19)), (m22, .inl (k 0, 600, .inl f22)), (m25, .inl (k 0, 4, .inl f25))]) [0, 1, 2, 3, 4, 5] (by decide) rfl, hS, lv_sub hl [1, 0] rfl⟩
    · skip
      have zh_42 : x_41.toInt = 0 := z_eq h_42
      refine lv_iconst (v := 1) hx hb dX12_lays_35 (by decide) ?_
      refine lv_iload_n hx hb dX12_lays_36 rfl (lv_at hl 1 rfl) ?_
      refine lv_ishl hx hb dX12_lays_37 ?_
      refine lv_topi (fun x_45 ex_45 => ?_)
      have zx_45 : 1 ≤ x_45.toInt ∧ x_45.toInt ≤ 512 := by rw [ex_45]; exact z_shl1 9 512 rfl (by decide) (by omega) (by omega)
      refine lv_goto (tgt := 42) hx hb dX12_lays_38 (by decide) ?_
      refine lv_ior hx hb dX12_lays_42 ?_
      refine lv_topi (fun x_46 ex_46 => ?_)
      have zx_46 : 0 ≤ x_46.toInt ∧ x_46.toInt < 1024 := by rw [ex_46]; exact z_or 10 1024 rfl (by decide) ⟨by omega, by omega⟩ ⟨by omega, by omega⟩
      refine va_put (D := D) (ci := 12) (v := .int x_46) (ty := tyX12 24) (C := RX12) (T := TX12) (N := 42) hx hb hts iT_X12 tyX12 tyX12_ok nmX12 hown hK hP hD hS 0 rfl rfl 24 (by decide) (hts _ tw_6_77) (fun _ h9 => h9) rfl (tyX12_ok 24 (by decide)) rfl rfl (Nat.le_of_ble_eq_true rfl) dX12_lays_43 (fun H locs hP hD hS => ?_)
      have hP : va_P D vwCl [(mo, .inr (12, [.int v0, .ref m1, .ref m2, .ref m3, .ref m4, .ref m5, .int v6, .int v7, .int v8, .int v9, .int v10, .long v11, .int v12, .int v13, .int v14, .int v15, .ref m16, .ref m17, .ref m18, .ref m19, .ref m20, .ref m21, .ref m22, .ref m23, .int x_46, .ref m25, .ref m26, .ref m27, .ref m28, .ref m29, .int v30, .ref m31, .ref m32, .ref m33, .int v34, .int v35, .int v36, .ref m37, .ref m38, .ref m39, .ref m40, .long v41])), (m17, .inl (k 0, 30, .inl f17)), (m18, .inl (k 0, 250, .inl f18)), (m19, .inl (k 0, 40, .inl f19)), (m22, .inl (k 0, 600, .inl f22)), (m25, .inl (k 0, 4, .inl f25))] H := hP
      have hD : va_D A [(mo, .inr (12, [.int v0, .ref m1, .ref m2, .ref m3, .ref m4, .ref m5, .int v6, .int v7, .int v8, .int v9, .int v10, .long v11, .int v12, .int v13, .int v14, .int v15, .ref m16, .ref m17, .ref m18, .ref m19, .ref m20, .ref m21, .ref m22, .ref m23, .int x_46, .ref m25, .ref m26, .ref m27, .ref m28, .ref m29, .int v30, .ref m31, .ref m32, .ref m33, .int v34, .int v35, .int v36, .ref m37, .ref m38, .ref m39, .ref m40, .long v41])), (m17, .inl (k 0, 30, .inl f17)), (m18, .inl (k 0, 250, .inl f18)), (m19, .inl (k 0, 40, .inl f19)), (m22, .inl (k 0, 600, .inl f22)), (m25, .inl (k 0, 4, .inl f25))] := hD
      obtain ⟨x_47, ex_47⟩ : ∃ y : Int32, y = L7l1 + 1 := ⟨_, rfl⟩
      have zx_47 : x_47.toInt = L7l1.toInt + 1 := by rw [ex_47]; exact z_add rfl rfl (by omega) (by omega)
      refine lv_iinc (v := x_47) (lv' := [(1, .int x_47), (0, .ref mo)]) hx hb dX12_lays_46 hl (k := 1) rfl (by rw [ex_47]; rfl) (by decide) rfl (fun ls hl => ?_)
      refine lv_goto (tgt := 7) hx hb dX12_lays_49 (by decide) ?_
      exact ih_1 _ _ _ _ (by omega) ⟨x_47, x_46, rfl, (show 0 ≤ x_47.toInt ∧ x_47.toInt ≤ 10 from by omega), (show 0 ≤ x_46.toInt ∧ x_46.toInt ≤ 1023 from by omega), hP.sub (ws' := [(mo, .inr (12, [.int v0, .ref m1, .ref m2, .ref m3, .ref m4, .ref m5, .int v6, .int v7, .int v8, .int v9, .int v10, .long v11, .int v12, .int v13, .int v14, .int v15, .ref m16, .ref m17, .ref m18, .ref m19, .ref m20, .ref m21, .ref m22, .ref m23, .int x_46, .ref m25, .ref m26, .ref m27, .ref m28, .ref m29, .int v30, .ref m31, .ref m32, .ref m33, .int v34, .int v35, .int v36, .ref m37, .ref m38, .ref m39, .ref m40, .long v41])), (m17, .inl (k 0, 30, .inl f17)), (m18, .inl (k 0, 250, .inl f18)), (m19, .inl (k 0, 40, .inl f19)), (m22, .inl (k 0, 600, .inl f22)), (m25, .inl (k 0, 4, .inl f25))]) [0, 1, 2, 3, 4, 5] rfl, hD.sub (ws' := [(mo, .inr (12, [.int v0, .ref m1, .ref m2, .ref m3, .ref m4, .ref m5, .int v6, .int v7, .int v8, .int v9, .int v10, .long v11, .int v12, .int v13, .int v14, .int v15, .ref m16, .ref m17, .ref m18, .ref m19, .ref m20, .ref m21, .ref m22, .ref m23, .int x_46, .ref m25, .ref m26, .ref m27, .ref m28, .ref m29, .int v30, .ref m31, .ref m32, .ref m33, .int v34, .int v35, .int v36, .ref m37, .ref m38, .ref m39, .ref m40, .long v41])), (m17, .inl (k 0, 30, .inl f17)), (m18, .inl (k 0, 250, .inl f18)), (m19, .inl (k 0, 40, .inl f19)), (m22, .inl (k 0, 600, .inl f22)), (m25, .inl (k 0, 4, .inl f25))]) [0, 1, 2, 3, 4, 5] (by decide) rfl, hS, lv_sub hl [1, 0] rfl⟩
set_option maxHeartbeats 4000000 in
set_option maxRecDepth 100000 in
theorem c_X12_takes_ (l : Launch) (D : va_G) (k : Nat → ClassId) (mo : Nat) (p0 : Int32) (p1 : Int32) (v0 : Int32) (m1 : Nat) (m2 : Nat) (m3 : Nat) (m4 : Nat) (m5 : Nat) (v6 : Int32) (v7 : Int32) (v8 : Int32) (v9 : Int32) (v10 : Int32) (v11 : Int64) (v12 : Int32) (v13 : Int32) (v14 : Int32) (v15 : Int32) (m16 : Nat) (m17 : Nat) (m18 : Nat) (m19 : Nat) (m20 : Nat) (m21 : Nat) (m22 : Nat) (m23 : Nat) (v24 : Int32) (m25 : Nat) (m26 : Nat) (m27 : Nat) (m28 : Nat) (m29 : Nat) (v30 : Int32) (m31 : Nat) (m32 : Nat) (m33 : Nat) (v34 : Int32) (v35 : Int32) (v36 : Int32) (m37 : Nat) (m38 : Nat) (m39 : Nat) (m40 : Nat) (v41 : Int64) (f18 : Nat → Int32) (sz : Nat) (h_p0 : 0 ≤ p0.toInt ∧ p0.toInt ≤ 9) (h_v6 : 0 ≤ v6.toInt ∧ v6.toInt ≤ 1000) (h_v24 : 0 ≤ v24.toInt ∧ v24.toInt ≤ 1023) (hp_f18_0 : PR 250 5 0 0 7 f18) (hp_f18_1 : PR 250 5 1 0 7 f18) (hp_f18_2 : PR 250 5 2 0 60 f18) (hp_f18_3 : PR 250 5 3 0 10 f18) : Met l yX12_takes_ (ww yX12_takes_ cX12_takes_ 3 (some .int)) ({ frames := 1, cells := 0, slots := 0, locals := 21 }) (Pre0 D k [(mo, .inr (12, [.int v0, .ref m1, .ref m2, .ref m3, .ref m4, .ref m5, .int v6, .int v7, .int v8, .int v9, .int v10, .long v11, .int v12, .int v13, .int v14, .int v15, .ref m16, .ref m17, .ref m18, .ref m19, .ref m20, .ref m21, .ref m22, .ref m23, .int v24, .ref m25, .ref m26, .ref m27, .ref m28, .ref m29, .int v30, .ref m31, .ref m32, .ref m33, .int v34, .int v35, .int v36, .ref m37, .ref m38, .ref m39, .ref m40, .long v41])), (m18, .inl (k 0, 250, .inl f18))] sz [.ref mo, .int p0, .int p1]) (va_Qi (fun (r : Int32) (_ : Unit) => (0 ≤ r.toInt ∧ r.toInt ≤ 70) ∧ (r = takesOf f18 p0 p1) ∧ ((f18 (5 * p0 + 2).toNatClampNeg).toInt ≤ r.toInt)) (fun (_ : Unit) tZ => Bw D k (va_A [(mo, .inr (12, [.int v0, .ref m1, .ref m2, .ref m3, .ref m4, .ref m5, .int v6, .int v7, .int v8, .int v9, .int v10, .long v11, .int v12, .int v13, .int v14, .int v15, .ref m16, .ref m17, .ref m18, .ref m19, .ref m20, .ref m21, .ref m22, .ref m23, .int v24, .ref m25, .ref m26, .ref m27, .ref m28, .ref m29, .int v30, .ref m31, .ref m32, .ref m33, .int v34, .int v35, .int v36, .ref m37, .ref m38, .ref m39, .ref m40, .long v41])), (m18, .inl (k 0, 250, .inl f18))] sz) [(mo, .inr (12, [.int v0, .ref m1, .ref m2, .ref m3, .ref m4, .ref m5, .int v6, .int v7, .int v8, .int v9, .int v10, .long v11, .int v12, .int v13, .int v14, .int v15, .ref m16, .ref m17, .ref m18, .ref m19, .ref m20, .ref m21, .ref m22, .ref m23, .int v24, .ref m25, .ref m26, .ref m27, .ref m28, .ref m29, .int v30, .ref m31, .ref m32, .ref m33, .int v34, .int v35, .int v36, .ref m37, .ref m38, .ref m39, .ref m40, .long v41])), (m18, .inl (k 0, 250, .inl f18))] tZ) (va_A [(mo, .inr (12, [.int v0, .ref m1, .ref m2, .ref m3, .ref m4, .ref m5, .int v6, .int v7, .int v8, .int v9, .int v10, .long v11, .int v12, .int v13, .int v14, .int v15, .ref m16, .ref m17, .ref m18, .ref m19, .ref m20, .ref m21, .ref m22, .ref m23, .int v24, .ref m25, .ref m26, .ref m27, .ref m28, .ref m29, .int v30, .ref m31, .ref m32, .ref m33, .int v34, .int v35, .int v36, .ref m37, .ref m38, .ref m39, .ref m40, .long v41])), (m18, .inl (k 0, 250, .inl f18))] sz)) 0 0 (va_A [(mo, .inr (12, [.int v0, .ref m1, .ref m2, .ref m3, .ref m4, .ref m5, .int v6, .int v7, .int v8, .int v9, .int v10, .long v11, .int v12, .int v13, .int v14, .int v15, .ref m16, .ref m17, .ref m18, .ref m19, .ref m20, .ref m21, .ref m22, .ref m23, .int v24, .ref m25, .ref m26, .ref m27, .ref m28, .ref m29, .int v30, .ref m31, .ref m32, .ref m33, .int v34, .int v35, .int v36, .ref m37, .ref m38, .ref m39, .ref m40, .long v41])), (m18, .inl (k 0, 250, .inl f18))] sz) := by
  refine Met.ofW (cc := cX12_takes_) (maxL := 3) (ret := (some .int)) (by decide +kernel) rfl ?_
  intro p e s m args below meth c s₁ B hml hv
  obtain ⟨rfl, hsz, hP, hK, hD0, hN⟩ := hv
  have hx := B.exec
  have hb := B.bytes
  have hr := B.returns
  have hts : ∀ w ∈ TT, w.before _ s = true := fun w h => atoms_spec (ws := ww yX12_takes_ cX12_takes_ 3 (some .int)) B.pre w (List.mem_cons_of_mem _ h)
  have hown : s.vm.findClass RX12 = some m.cls := findClass_of_methodNamed B.named
  have hlocks := B.notSynchronized
  subst hsz
  have hD := hD0.self (sz := s.heap.size)
  generalize hAe : va_A [(mo, .inr (12, [.int v0, .ref m1, .ref m2, .ref m3, .ref m4, .ref m5, .int v6, .int v7, .int v8, .int v9, .int v10, .long v11, .int v12, .int v13, .int v14, .int v15, .ref m16, .ref m17, .ref m18, .ref m19, .ref m20, .ref m21, .ref m22, .ref m23, .int v24, .ref m25, .ref m26, .ref m27, .ref m28, .ref m29, .int v30, .ref m31, .ref m32, .ref m33, .int v34, .int v35, .int v36, .ref m37, .ref m38, .ref m39, .ref m40, .long v41])), (m18, .inl (k 0, 250, .inl f18))] s.heap.size = A at hD ⊢
  have hA : ∀ q : Nat, s.heap.size ≤ q → A q := fun q h => by rw [← hAe]; exact Or.inr h
  have hS : va_S A s.heap s.heap [] := va_S.rf
  have hl := lv_entry ([.ref mo, .int p0, .int p1]) (n := 3) (Nat.le_of_ble_eq_true rfl)
  rw [lg_entry_eq]
  generalize (lg_sl ([.ref mo, .int p0, .int p1]) ++ List.replicate (3 - (lg_sl ([.ref mo, .int p0, .int p1])).length) Slot.unset).toArray = ls at hl ⊢
  have hl : lv_has ls 3 [(0, .ref mo), (1, .int p0), (2, .int p1)] := hl
  refine lv_aload_n hx hb dX12_takes__0 rfl (lv_at hl 0 rfl) ?_
  refine va_get (D := D) (ci := 12) (v := .ref m18) (C := RX12) (T := TX12) (N := 42) hx hb hts iT_X12 hown hK hP 0 rfl rfl 18 (by decide) (hts _ tw_6_71) (fun _ h9 => h9) rfl dX12_takes__1 ?_
  refine lv_iconst (v := 5) hx hb dX12_takes__4 (by decide) ?_
  refine lv_iload_n hx hb dX12_takes__5 rfl (lv_at hl 1 rfl) ?_
  refine lv_imul hx hb dX12_takes__6 ?_
  refine lv_topi (fun x_1 ex_1 => ?_)
  have zx_1 : x_1.toInt = 5 * p0.toInt := by rw [ex_1]; exact z_mul rfl rfl (by omega) (by omega)
  refine lv_iconst (v := 2) hx hb dX12_takes__7 (by decide) ?_
  refine lv_iadd hx hb dX12_takes__8 ?_
  refine lv_topi (fun x_2 ex_2 => ?_)
  have zx_2 : x_2.toInt = x_1.toInt + 2 := by rw [ex_2]; exact z_add rfl rfl (by omega) (by omega)
  refine va_iald hx hb hK hP 1 0 rfl rfl (z_in (by omega) (by omega)) dX12_takes__9 ?_
  refine lv_topi (fun x_3 ex_3 => ?_)
  have zx_3r2 : 0 ≤ x_3.toInt ∧ x_3.toInt ≤ 60 := by rw [ex_3]; exact PR.ld hp_f18_2 (by omega) (by omega) (by omega)
  refine lv_iload_n hx hb dX12_takes__10 rfl (lv_at hl 2 rfl) ?_
  refine lv_iload_n hx hb dX12_takes__11 rfl (lv_at hl 1 rfl) ?_
  have hPc := hP.sub (ws' := []) [] rfl
  have hDc := hD.sub (ws' := []) [] (by decide) rfl
  have hFc := va_free (wc := []) hD hS hA [] rfl
  refine va_calli (va_runS (As := [.int p1, .int p0]) (rest := [.int x_3]) ⟨hx, hb, hml, hown, hts⟩ (c_X12_isBit l D k p1 p0 s.heap.size) (va_cwS 2 hts (gS tw_7_107 tw_7_108 tw_1_13 tw_7_109) rfl rfl rfl hdS_X12_isBit ⟨Nat.le_of_ble_eq_true rfl, Nat.le_of_ble_eq_true rfl⟩) (cz_S hK hPc hDc hN [.int p1, .int p0]) rfl rfl hl.1 rfl (lv_room (Nat.le_of_ble_eq_true rfl)) dX12_takes__12 ⟨Nat.le_of_ble_eq_true rfl, Nat.le_of_ble_eq_true rfl⟩) hS (fun q _ h => hFc q h) hFc (fun r_4 uZ tZ H1 locs ht hvm hw hB hz1 hk1 hS => ?_)
  obtain ⟨hP1, hK1, hD1⟩ := hB
  rw [ht] at hP1
  obtain ⟨hP, hD⟩ := va_join (wr := [(mo, .inr (12, [.int v0, .ref m1, .ref m2, .ref m3, .ref m4, .ref m5, .int v6, .int v7, .int v8, .int v9, .int v10, .long v11, .int v12, .int v13, .int v14, .int v15, .ref m16, .ref m17, .ref m18, .ref m19, .ref m20, .ref m21, .ref m22, .ref m23, .int v24, .ref m25, .ref m26, .ref m27, .ref m28, .ref m29, .int v30, .ref m31, .ref m32, .ref m33, .int v34, .int v35, .int v36, .ref m37, .ref m38, .ref m39, .ref m40, .long v41])), (m18, .inl (k 0, 250, .inl f18))]) (w1 := []) hP hD [] [0, 1] rfl rfl (by decide) (by decide) hk1 hFc hP1 hD1
  clear hK1 hP1 hD1 hPc hDc hFc
  clear hk1 hz1 ht hvm
  have hP : va_P D vwCl [(mo, .inr (12, [.int v0, .ref m1, .ref m2, .ref m3, .ref m4, .ref m5, .int v6, .int v7, .int v8, .int v9, .int v10, .long v11, .int v12, .int v13, .int v14, .int v15, .ref m16, .ref m17, .ref m18, .ref m19, .ref m20, .ref m21, .ref m22, .ref m23, .int v24, .ref m25, .ref m26, .ref m27, .ref m28, .ref m29, .int v30, .ref m31, .ref m32, .ref m33, .int v34, .int v35, .int v36, .ref m37, .ref m38, .ref m39, .ref m40, .long v41])), (m18, .inl (k 0, 250, .inl f18))] H1 := hP
  have hD : va_D A [(mo, .inr (12, [.int v0, .ref m1, .ref m2, .ref m3, .ref m4, .ref m5, .int v6, .int v7, .int v8, .int v9, .int v10, .long v11, .int v12, .int v13, .int v14, .int v15, .ref m16, .ref m17, .ref m18, .ref m19, .ref m20, .ref m21, .ref m22, .ref m23, .int v24, .ref m25, .ref m26, .ref m27, .ref m28, .ref m29, .int v30, .ref m31, .ref m32, .ref m33, .int v34, .int v35, .int v36, .ref m37, .ref m38, .ref m39, .ref m40, .long v41])), (m18, .inl (k 0, 250, .inl f18))] := hD
  generalize H1 = H at hP hS ⊢
  have hw_5 : (0 ≤ r_4.toInt ∧ r_4.toInt ≤ 1) ∧ (r_4 = bitOf p1 p0) := hw
  obtain ⟨hw_6, hw_7⟩ := hw_5
  clear hw
  refine lv_if_eq (tgt := 23) hx hb dX12_takes__15 (by decide) (fun h_8 => ?_) (fun h_8 => ?_)
  · skip
    have zh_8 : r_4.toInt = 0 := z_eq h_8
    refine lv_iconst (v := 0) hx hb dX12_takes__23 (by decide) ?_
    refine lv_iadd hx hb dX12_takes__24 ?_
    refine lv_topi (fun x_9 ex_9 => ?_)
    have zx_9 : x_9.toInt = x_3.toInt + 0 := by rw [ex_9]; exact z_add rfl rfl (by omega) (by omega)
    have hP9 := hP.sub (ws' := [(mo, .inr (12, [.int v0, .ref m1, .ref m2, .ref m3, .ref m4, .ref m5, .int v6, .int v7, .int v8, .int v9, .int v10, .long v11, .int v12, .int v13, .int v14, .int v15, .ref m16, .ref m17, .ref m18, .ref m19, .ref m20, .ref m21, .ref m22, .ref m23, .int v24, .ref m25, .ref m26, .ref m27, .ref m28, .ref m29, .int v30, .ref m31, .ref m32, .ref m33, .int v34, .int v35, .int v36, .ref m37, .ref m38, .ref m39, .ref m40, .long v41])), (m18, .inl (k 0, 250, .inl f18))]) [0, 1] rfl
    have hD9 := hD.sub (ws' := [(mo, .inr (12, [.int v0, .ref m1, .ref m2, .ref m3, .ref m4, .ref m5, .int v6, .int v7, .int v8, .int v9, .int v10, .long v11, .int v12, .int v13, .int v14, .int v15, .ref m16, .ref m17, .ref m18, .ref m19, .ref m20, .ref m21, .ref m22, .ref m23, .int v24, .ref m25, .ref m26, .ref m27, .ref m28, .ref m29, .int v30, .ref m31, .ref m32, .ref m33, .int v34, .int v35, .int v36, .ref m37, .ref m38, .ref m39, .ref m40, .long v41])), (m18, .inl (k 0, 250, .inl f18))]) [0, 1] (by decide) rfl
    exact W.iret (v := x_9) hx hb hr (fun tZ ht hW => ⟨⟨x_9, (), rfl, ⟨(show 0 ≤ x_9.toInt ∧ x_9.toInt ≤ 70 from by omega), (show x_9 = takesOf f18 p0 p1 from by rw [ex_9, ex_3, ex_2, ex_1]; unfold takesOf; rw [← hw_7, if_pos h_8]), (show (f18 (5 * p0 + 2).toNatClampNeg).toInt ≤ x_9.toInt from by rw [← ex_1, ← ex_2, ← ex_3]; omega)⟩, by rw [ht]; exact hP9, va_K.moved hW.alike hK, hD9⟩, hS.F ht⟩) hS.2.2 dX12_takes__25
  · skip
    have zh_8 : ¬ r_4.toInt = 0 := z_ne h_8
    refine lv_bipush (v := 10) hx hb dX12_takes__18 (by decide) ?_
    refine lv_goto (tgt := 24) hx hb dX12_takes__20 (by decide) ?_
    refine lv_iadd hx hb dX12_takes__24 ?_
    refine lv_topi (fun x_10 ex_10 => ?_)
    have zx_10 : x_10.toInt = x_3.toInt + 10 := by rw [ex_10]; exact z_add rfl rfl (by omega) (by omega)
    have hP9 := hP.sub (ws' := [(mo, .inr (12, [.int v0, .ref m1, .ref m2, .ref m3, .ref m4, .ref m5, .int v6, .int v7, .int v8, .int v9, .int v10, .long v11, .int v12, .int v13, .int v14, .int v15, .ref m16, .ref m17, .ref m18, .ref m19, .ref m20, .ref m21, .ref m22, .ref m23, .int v24, .ref m25, .ref m26, .ref m27, .ref m28, .ref m29, .int v30, .ref m31, .ref m32, .ref m33, .int v34, .int v35, .int v36, .ref m37, .ref m38, .ref m39, .ref m40, .long v41])), (m18, .inl (k 0, 250, .inl f18))]) [0, 1] rfl
    have hD9 := hD.sub (ws' := [(mo, .inr (12, [.int v0, .ref m1, .ref m2, .ref m3, .ref m4, .ref m5, .int v6, .int v7, .int v8, .int v9, .int v10, .long v11, .int v12, .int v13, .int v14, .int v15, .ref m16, .ref m17, .ref m18, .ref m19, .ref m20, .ref m21, .ref m22, .ref m23, .int v24, .ref m25, .ref m26, .ref m27, .ref m28, .ref m29, .int v30, .ref m31, .ref m32, .ref m33, .int v34, .int v35, .int v36, .ref m37, .ref m38, .ref m39, .ref m40, .long v41])), (m18, .inl (k 0, 250, .inl f18))]) [0, 1] (by decide) rfl
    exact W.iret (v := x_10) hx hb hr (fun tZ ht hW => ⟨⟨x_10, (), rfl, ⟨(show 0 ≤ x_10.toInt ∧ x_10.toInt ≤ 70 from by omega), (show x_10 = takesOf f18 p0 p1 from by rw [ex_10, ex_3, ex_2, ex_1]; unfold takesOf; rw [← hw_7, if_neg h_8]), (show (f18 (5 * p0 + 2).toNatClampNeg).toInt ≤ x_10.toInt from by rw [← ex_1, ← ex_2, ← ex_3]; omega)⟩, by rw [ht]; exact hP9, va_K.moved hW.alike hK, hD9⟩, hS.F ht⟩) hS.2.2 dX12_takes__25
set_option maxHeartbeats 4000000 in
set_option maxRecDepth 100000 in
theorem c_X12_lowers_0 (l : Launch) (D : va_G) (k : Nat → ClassId) (mo : Nat) (p0 : Int32) (p1 : Int32) (v0 : Int32) (m1 : Nat) (m2 : Nat) (m3 : Nat) (m4 : Nat) (m5 : Nat) (v6 : Int32) (v7 : Int32) (v8 : Int32) (v9 : Int32) (v10 : Int32) (v11 : Int64) (v12 : Int32) (v13 : Int32) (v14 : Int32) (v15 : Int32) (m16 : Nat) (m17 : Nat) (m18 : Nat) (m19 : Nat) (m20 : Nat) (m21 : Nat) (m22 : Nat) (m23 : Nat) (v24 : Int32) (m25 : Nat) (m26 : Nat) (m27 : Nat) (m28 : Nat) (m29 : Nat) (v30 : Int32) (m31 : Nat) (m32 : Nat) (m33 : Nat) (v34 : Int32) (v35 : Int32) (v36 : Int32) (m37 : Nat) (m38 : Nat) (m39 : Nat) (m40 : Nat) (v41 : Int64) (f17 : Nat → Int32) (f18 : Nat → Int32) (f26 : Nat → Int32) (sz : Nat) (h_v6 : 0 ≤ v6.toInt ∧ v6.toInt ≤ 1000) (h_v24 : 0 ≤ v24.toInt ∧ v24.toInt ≤ 1023) (hp_f17_0 : PR 30 6 0 0 8 f17) (hp_f17_1 : PR 30 6 1 0 10 f17) (hp_f17_2 : PR 30 6 2 0 4 f17) (hp_f17_3 : PR 30 6 3 0 6 f17) (hp_f17_4 : PR 30 6 4 0 2 f17) (hp_f17_5 : PR 30 6 5 0 40 f17) (hp_f18_0 : PR 250 5 0 0 7 f18) (hp_f18_1 : PR 250 5 1 0 7 f18) (hp_f18_2 : PR 250 5 2 0 60 f18) (hp_f18_3 : PR 250 5 3 0 10 f18) (hp_f26_0 : PR 8 1 0 0 100000 f26) (hp_f26_1 : MN f26) : Met l yX12_lowers (ww yX12_lowers cX12_lowers 7 none) ({ frames := 2, cells := 0, slots := 0, locals := 43 }) (Pre0 D k [(mo, .inr (12, [.int v0, .ref m1, .ref m2, .ref m3, .ref m4, .ref m5, .int v6, .int v7, .int v8, .int v9, .int v10, .long v11, .int v12, .int v13, .int v14, .int v15, .ref m16, .ref m17, .ref m18, .ref m19, .ref m20, .ref m21, .ref m22, .ref m23, .int v24, .ref m25, .ref m26, .ref m27, .ref m28, .ref m29, .int v30, .ref m31, .ref m32, .ref m33, .int v34, .int v35, .int v36, .ref m37, .ref m38, .ref m39, .ref m40, .long v41])), (m17, .inl (k 0, 30, .inl f17)), (m18, .inl (k 0, 250, .inl f18)), (m26, .inl (k 0, 8, .inl f26))] sz [.ref mo, .int p0, .int p1]) (va_Qv (fun (f26z : (Nat → Int32)) => (PR 8 1 0 0 100000 f26z) ∧ (MN f26z)) (fun (f26z : (Nat → Int32)) tZ => Bw D k (va_A [(mo, .inr (12, [.int v0, .ref m1, .ref m2, .ref m3, .ref m4, .ref m5, .int v6, .int v7, .int v8, .int v9, .int v10, .long v11, .int v12, .int v13, .int v14, .int v15, .ref m16, .ref m17, .ref m18, .ref m19, .ref m20, .ref m21, .ref m22, .ref m23, .int v24, .ref m25, .ref m26, .ref m27, .ref m28, .ref m29, .int v30, .ref m31, .ref m32, .ref m33, .int v34, .int v35, .int v36, .ref m37, .ref m38, .ref m39, .ref m40, .long v41])), (m17, .inl (k 0, 30, .inl f17)), (m18, .inl (k 0, 250, .inl f18)), (m26, .inl (k 0, 8, .inl f26))] sz) [(mo, .inr (12, [.int v0, .ref m1, .ref m2, .ref m3, .ref m4, .ref m5, .int v6, .int v7, .int v8, .int v9, .int v10, .long v11, .int v12, .int v13, .int v14, .int v15, .ref m16, .ref m17, .ref m18, .ref m19, .ref m20, .ref m21, .ref m22, .ref m23, .int v24, .ref m25, .ref m26, .ref m27, .ref m28, .ref m29, .int v30, .ref m31, .ref m32, .ref m33, .int v34, .int v35, .int v36, .ref m37, .ref m38, .ref m39, .ref m40, .long v41])), (m17, .inl (k 0, 30, .inl f17)), (m18, .inl (k 0, 250, .inl f18)), (m26, .inl (k 0, 8, .inl f26z))] tZ) (va_A [(mo, .inr (12, [.int v0, .ref m1, .ref m2, .ref m3, .ref m4, .ref m5, .int v6, .int v7, .int v8, .int v9, .int v10, .long v11, .int v12, .int v13, .int v14, .int v15, .ref m16, .ref m17, .ref m18, .ref m19, .ref m20, .ref m21, .ref m22, .ref m23, .int v24, .ref m25, .ref m26, .ref m27, .ref m28, .ref m29, .int v30, .ref m31, .ref m32, .ref m33, .int v34, .int v35, .int v36, .ref m37, .ref m38, .ref m39, .ref m40, .long v41])), (m17, .inl (k 0, 30, .inl f17)), (m18, .inl (k 0, 250, .inl f18)), (m26, .inl (k 0, 8, .inl f26))] sz)) 0 0 (va_A [(mo, .inr (12, [.int v0, .ref m1, .ref m2, .ref m3, .ref m4, .ref m5, .int v6, .int v7, .int v8, .int v9, .int v10, .long v11, .int v12, .int v13, .int v14, .int v15, .ref m16, .ref m17, .ref m18, .ref m19, .ref m20, .ref m21, .ref m22, .ref m23, .int v24, .ref m25, .ref m26, .ref m27, .ref m28, .ref m29, .int v30, .ref m31, .ref m32, .ref m33, .int v34, .int v35, .int v36, .ref m37, .ref m38, .ref m39, .ref m40, .long v41])), (m17, .inl (k 0, 30, .inl f17)), (m18, .inl (k 0, 250, .inl f18)), (m26, .inl (k 0, 8, .inl f26))] sz) := by
  refine Met.ofW (cc := cX12_lowers) (maxL := 7) (ret := none) (by decide +kernel) rfl ?_
  intro p e s m args below meth c s₁ B hml hv
  obtain ⟨rfl, hsz, hP, hK, hD0, hN⟩ := hv
  have hx := B.exec
  have hb := B.bytes
  have hr := B.returns
  have hts : ∀ w ∈ TT, w.before _ s = true := fun w h => atoms_spec (ws := ww yX12_lowers cX12_lowers 7 none) B.pre w (List.mem_cons_of_mem _ h)
  have hown : s.vm.findClass RX12 = some m.cls := findClass_of_methodNamed B.named
  have hlocks := B.notSynchronized
  subst hsz
  have hD := hD0.self (sz := s.heap.size)
  generalize hAe : va_A [(mo, .inr (12, [.int v0, .ref m1, .ref m2, .ref m3, .ref m4, .ref m5, .int v6, .int v7, .int v8, .int v9, .int v10, .long v11, .int v12, .int v13, .int v14, .int v15, .ref m16, .ref m17, .ref m18, .ref m19, .ref m20, .ref m21, .ref m22, .ref m23, .int v24, .ref m25, .ref m26, .ref m27, .ref m28, .ref m29, .int v30, .ref m31, .ref m32, .ref m33, .int v34, .int v35, .int v36, .ref m37, .ref m38, .ref m39, .ref m40, .long v41])), (m17, .inl (k 0, 30, .inl f17)), (m18, .inl (k 0, 250, .inl f18)), (m26, .inl (k 0, 8, .inl f26))] s.heap.size = A at hD ⊢
  have hA : ∀ q : Nat, s.heap.size ≤ q → A q := fun q h => by rw [← hAe]; exact Or.inr h
  have hS : va_S A s.heap s.heap [] := va_S.rf
  have hl := lv_entry ([.ref mo, .int p0, .int p1]) (n := 7) (Nat.le_of_ble_eq_true rfl)
  rw [lg_entry_eq]
  generalize (lg_sl ([.ref mo, .int p0, .int p1]) ++ List.replicate (7 - (lg_sl ([.ref mo, .int p0, .int p1])).length) Slot.unset).toArray = ls at hl ⊢
  have hl : lv_has ls 7 [(0, .ref mo), (1, .int p0), (2, .int p1)] := hl
  refine lv_iconst (v := 0) hx hb dX12_lowers_0 (by decide) ?_
  refine lv_istore_n (lv' := [(3, .int 0), (0, .ref mo), (1, .int p0), (2, .int p1)]) hx hb dX12_lowers_1 rfl hl (by decide) rfl (fun ls hl => ?_)
  refine loop_r (Wg := fun H locs ls => W p l e _ s m _ below meth c H locs _ _ _ (F0 m 2 ls [])) (fun n9 H locs ls => ∃ (L2l3 : Int32) (L2a3 : Nat → Int32), n9 = (8 - L2l3.toInt).toNat ∧ (0 ≤ L2l3.toInt ∧ L2l3.toInt ≤ 8) ∧ (PR 8 1 0 0 100000 L2a3) ∧ (MN L2a3) ∧ va_P D vwCl [(mo, .inr (12, [.int v0, .ref m1, .ref m2, .ref m3, .ref m4, .ref m5, .int v6, .int v7, .int v8, .int v9, .int v10, .long v11, .int v12, .int v13, .int v14, .int v15, .ref m16, .ref m17, .ref m18, .ref m19, .ref m20, .ref m21, .ref m22, .ref m23, .int v24, .ref m25, .ref m26, .ref m27, .ref m28, .ref m29, .int v30, .ref m31, .ref m32, .ref m33, .int v34, .int v35, .int v36, .ref m37, .ref m38, .ref m39, .ref m40, .long v41])), (m17, .inl (k 0, 30, .inl f17)), (m18, .inl (k 0, 250, .inl f18)), (m26, .inl (k 0, 8, .inl L2a3))] H ∧ va_D A [(mo, .inr (12, [.int v0, .ref m1, .ref m2, .ref m3, .ref m4, .ref m5, .int v6, .int v7, .int v8, .int v9, .int v10, .long v11, .int v12, .int v13, .int v14, .int v15, .ref m16, .ref m17, .ref m18, .ref m19, .ref m20, .ref m21, .ref m22, .ref m23, .int v24, .ref m25, .ref m26, .ref m27, .ref m28, .ref m29, .int v30, .ref m31, .ref m32, .ref m33, .int v34, .int v35, .int v36, .ref m37, .ref m38, .ref m39, .ref m40, .long v41])), (m17, .inl (k 0, 30, .inl f17)), (m18, .inl (k 0, 250, .inl f18)), (m26, .inl (k 0, 8, .inl L2a3))] ∧ va_S A s.heap H locs ∧ lv_has ls 7 [(0, .ref mo), (1, .int p0), (2, .int p1), (3, .int L2l3)]) (fun n9 H locs ls hI ih_1 => ?_) _ _ _ _ ⟨0, f26, rfl, (show 0 ≤ 0 ∧ 0 ≤ 8 from by omega), hp_f26_0, hp_f26_1, hP.sub (ws' := [(mo, .inr (12, [.int v0, .ref m1, .ref m2, .ref m3, .ref m4, .ref m5, .int v6, .int v7, .int v8, .int v9, .int v10, .long v11, .int v12, .int v13, .int v14, .int v15, .ref m16, .ref m17, .ref m18, .ref m19, .ref m20, .ref m21, .ref m22, .ref m23, .int v24, .ref m25, .ref m26, .ref m27, .ref m28, .ref m29, .int v30, .ref m31, .ref m32, .ref m33, .int v34, .int v35, .int v36, .ref m37, .ref m38, .ref m39, .ref m40, .long v41])), (m17, .inl (k 0, 30, .inl f17)), (m18, .inl (k 0, 250, .inl f18)), (m26, .inl (k 0, 8, .inl f26))]) [0, 1, 2, 3] rfl, hD.sub (ws' := [(mo, .inr (12, [.int v0, .ref m1, .ref m2, .ref m3, .ref m4, .ref m5, .int v6, .int v7, .int v8, .int v9, .int v10, .long v11, .int v12, .int v13, .int v14, .int v15, .ref m16, .ref m17, .ref m18, .ref m19, .ref m20, .ref m21, .ref m22, .ref m23, .int v24, .ref m25, .ref m26, .ref m27, .ref m28, .ref m29, .int v30, .ref m31, .ref m32, .ref m33, .int v34, .int v35, .int v36, .ref m37, .ref m38, .ref m39, .ref m40, .long v41])), (m17, .inl (k 0, 30, .inl f17)), (m18, .inl (k 0, 250, .inl f18)), (m26, .inl (k 0, 8, .inl f26))]) [0, 1, 2, 3] (by decide) rfl, hS, lv_sub hl [1, 2, 3, 0] rfl⟩
  clear hP hD hS hl
  obtain ⟨L2l3, L2a3, en_2, zL2l3, L2a3h0, L2a3h1, hP, hD, hS, hl⟩ := hI
  refine lv_iload_n hx hb dX12_lowers_2 rfl (lv_at hl 3 rfl) ?_
  refine lv_aload_n hx hb dX12_lowers_3 rfl (lv_at hl 0 rfl) ?_
  refine va_get (D := D) (ci := 12) (v := .ref m17) (C := RX12) (T := TX12) (N := 42) hx hb hts iT_X12 hown hK hP 0 rfl rfl 17 (by decide) (hts _ tw_6_70) (fun _ h9 => h9) rfl dX12_lowers_4 ?_
  refine lv_iconst (v := 0) hx hb dX12_lowers_7 (by decide) ?_
  refine va_iald hx hb hK hP 1 0 rfl rfl (z_in (by decide) (by decide)) dX12_lowers_8 ?_
  refine lv_topi (fun x_3 ex_3 => ?_)
  have zx_3r0 : 0 ≤ x_3.toInt ∧ x_3.toInt ≤ 8 := by rw [ex_3]; exact PR.ld hp_f17_0 (by decide) (by decide) (by decide)
  refine lv_icmp_ge (tgt := 168) hx hb dX12_lowers_9 (by decide) (fun h_4 => ?_) (fun h_4 => ?_)
  · skip
    have zh_4 : x_3.toInt ≤ L2l3.toInt := z_le h_4
    have hP9 := hP.sub (ws' := [(mo, .inr (12, [.int v0, .ref m1, .ref m2, .ref m3, .ref m4, .ref m5, .int v6, .int v7, .int v8, .int v9, .int v10, .long v11, .int v12, .int v13, .int v14, .int v15, .ref m16, .ref m17, .ref m18, .ref m19, .ref m20, .ref m21, .ref m22, .ref m23, .int v24, .ref m25, .ref m26, .ref m27, .ref m28, .ref m29, .int v30, .ref m31, .ref m32, .ref m33, .int v34, .int v35, .int v36, .ref m37, .ref m38, .ref m39, .ref m40, .long v41])), (m17, .inl (k 0, 30, .inl f17)), (m18, .inl (k 0, 250, .inl f18)), (m26, .inl (k 0, 8, .inl L2a3))]) [0, 1, 2, 3] rfl
    have hD9 := hD.sub (ws' := [(mo, .inr (12, [.int v0, .ref m1, .ref m2, .ref m3, .ref m4, .ref m5, .int v6, .int v7, .int v8, .int v9, .int v10, .long v11, .int v12, .int v13, .int v14, .int v15, .ref m16, .ref m17, .ref m18, .ref m19, .ref m20, .ref m21, .ref m22, .ref m23, .int v24, .ref m25, .ref m26, .ref m27, .ref m28, .ref m29, .int v30, .ref m31, .ref m32, .ref m33, .int v34, .int v35, .int v36, .ref m37, .ref m38, .ref m39, .ref m40, .long v41])), (m17, .inl (k 0, 30, .inl f17)), (m18, .inl (k 0, 250, .inl f18)), (m26, .inl (k 0, 8, .inl L2a3))]) [0, 1, 2, 3] (by decide) rfl
    exact W.vret hx hb hr (fun tZ ht hW => ⟨⟨L2a3, rfl, ⟨L2a3h0, L2a3h1⟩, by rw [ht]; exact hP9, va_K.moved hW.alike hK, hD9⟩, hS.F ht⟩) hS.2.2 dX12_lowers_168
  · skip
    have zh_4 : L2l3.toInt < x_3.toInt := z_nle h_4
    refine lv_iconst (v := 0) hx hb dX12_lowers_12 (by decide) ?_
    refine lv_istore (lv' := [(4, .int 0), (0, .ref mo), (1, .int p0), (2, .int p1), (3, .int L2l3)]) hx hb dX12_lowers_13 hl (by decide) rfl (fun ls hl => ?_)
    refine loop_r (Wg := fun H locs ls => W p l e _ s m _ below meth c H locs _ _ _ (F0 m 15 ls [])) (fun n9 H locs ls => ∃ (L15l4 : Int32) (L15a3 : Nat → Int32), n9 = (10 - L15l4.toInt).toNat ∧ (0 ≤ L15l4.toInt ∧ L15l4.toInt ≤ 10) ∧ (PR 8 1 0 0 100000 L15a3) ∧ (MN L15a3) ∧ va_P D vwCl [(mo, .inr (12, [.int v0, .ref m1, .ref m2, .ref m3, .ref m4, .ref m5, .int v6, .int v7, .int v8, .int v9, .int v10, .long v11, .int v12, .int v13, .int v14, .int v15, .ref m16, .ref m17, .ref m18, .ref m19, .ref m20, .ref m21, .ref m22, .ref m23, .int v24, .ref m25, .ref m26, .ref m27, .ref m28, .ref m29, .int v30, .ref m31, .ref m32, .ref m33, .int v34, .int v35, .int v36, .ref m37, .ref m38, .ref m39, .ref m40, .long v41])), (m17, .inl (k 0, 30, .inl f17)), (m18, .inl (k 0, 250, .inl f18)), (m26, .inl (k 0, 8, .inl L15a3))] H ∧ va_D A [(mo, .inr (12, [.int v0, .ref m1, .ref m2, .ref m3, .ref m4, .ref m5, .int v6, .int v7, .int v8, .int v9, .int v10, .long v11, .int v12, .int v13, .int v14, .int v15, .ref m16, .ref m17, .ref m18, .ref m19, .ref m20, .ref m21, .ref m22, .ref m23, .int v24, .ref m25, .ref m26, .ref m27, .ref m28, .ref m29, .int v30, .ref m31, .ref m32, .ref m33, .int v34, .int v35, .int v36, .ref m37, .ref m38, .ref m39, .ref m40, .long v41])), (m17, .inl (k 0, 30, .inl f17)), (m18, .inl (k 0, 250, .inl f18)), (m26, .inl (k 0, 8, .inl L15a3))] ∧ va_S A s.heap H locs ∧ lv_has ls 7 [(0, .ref mo), (1, .int p0), (2, .int p1), (3, .int L2l3), (4, .int L15l4)]) (fun n9 H locs ls hI ih_5 => ?_) _ _ _ _ ⟨0, L2a3, rfl, (show 0 ≤ 0 ∧ 0 ≤ 10 from by omega), L2a3h0, L2a3h1, hP.sub (ws' := [(mo, .inr (12, [.int v0, .ref m1, .ref m2, .ref m3, .ref m4, .ref m5, .int v6, .int v7, .int v8, .int v9, .int v10, .long v11, .int v12, .int v13, .int v14, .int v15, .ref m16, .ref m17, .ref m18, .ref m19, .ref m20, .ref m21, .ref m22, .ref m23, .int v24, .ref m25, .ref m26, .ref m27, .ref m28, .ref m29, .int v30, .ref m31, .ref m32, .ref m33, .int v34, .int v35, .int v36, .ref m37, .ref m38, .ref m39, .ref m40, .long v41])), (m17, .inl (k 0, 30, .inl f17)), (m18, .inl (k 0, 250, .inl f18)), (m26, .inl (k 0, 8, .inl L2a3))]) [0, 1, 2, 3] rfl, hD.sub (ws' := [(mo, .inr (12, [.int v0, .ref m1, .ref m2, .ref m3, .ref m4, .ref m5, .int v6, .int v7, .int v8, .int v9, .int v10, .long v11, .int v12, .int v13, .int v14, .int v15, .ref m16, .ref m17, .ref m18, .ref m19, .ref m20, .ref m21, .ref m22, .ref m23, .int v24, .ref m25, .ref m26, .ref m27, .ref m28, .ref m29, .int v30, .ref m31, .ref m32, .ref m33, .int v34, .int v35, .int v36, .ref m37, .ref m38, .ref m39, .ref m40, .long v41])), (m17, .inl (k 0, 30, .inl f17)), (m18, .inl (k 0, 250, .inl f18)), (m26, .inl (k 0, 8, .inl L2a3))]) [0, 1, 2, 3] (by decide) rfl, hS, lv_sub hl [1, 2, 3, 4, 0] rfl⟩
    clear hP hD hS hl
    obtain ⟨L15l4, L15a3, en_6, zL15l4, L15a3h0, L15a3h1, hP, hD, hS, hl⟩ := hI
    refine lv_iload hx hb dX12_lowers_15 (lv_at hl 4 rfl) ?_
    refine lv_aload_n hx hb dX12_lowers_17 rfl (lv_at hl 0 rfl) ?_
    refine va_get (D := D) (ci := 12) (v := .ref m17) (C := RX12) (T := TX12) (N := 42) hx hb hts iT_X12 hown hK hP 0 rfl rfl 17 (by decide) (hts _ tw_6_70) (fun _ h9 => h9) rfl dX12_lowers_18 ?_
    refine lv_iconst (v := 1) hx hb dX12_lowers_21 (by decide) ?_
    refine va_iald hx hb hK hP 1 0 rfl rfl (z_in (by decide) (by decide)) dX12_lowers_22 ?_
    refine lv_topi (fun x_7 ex_7 => ?_)
    have zx_7r1 : 0 ≤ x_7.toInt ∧ x_7.toInt ≤ 10 := by rw [ex_7]; exact PR.ld hp_f17_1 (by decide) (by decide) (by decide)
    refine lv_icmp_ge (tgt := 162) hx hb dX12_lowers_23 (by decide) (fun h_8 => ?_) (fun h_8 => ?_)
    · skip
      have zh_8 : x_7.toInt ≤ L15l4.toInt := z_le h_8
      obtain ⟨x_9, ex_9⟩ : ∃ y : Int32, y = L2l3 + 1 := ⟨_, rfl⟩
      have zx_9 : x_9.toInt = L2l3.toInt + 1 := by rw [ex_9]; exact z_add rfl rfl (by omega) (by omega)
      refine lv_iinc (v := x_9) (lv' := [(3, .int x_9), (0, .ref mo), (1, .int p0), (2, .int p1), (4, .int L15l4)]) hx hb dX12_lowers_162 hl (k := 3) rfl (by rw [ex_9]; rfl) (by decide) rfl (fun ls hl => ?_)
      refine lv_goto (tgt := 2) hx hb dX12_lowers_165 (by decide) ?_
      exact ih_1 _ _ _ _ (by omega) ⟨x_9, L15a3, rfl, (show 0 ≤ x_9.toInt ∧ x_9.toInt ≤ 8 from by omega), L15a3h0, L15a3h1, hP.sub (ws' := [(mo, .inr (12, [.int v0, .ref m1, .ref m2, .ref m3, .ref m4, .ref m5, .int v6, .int v7, .int v8, .int v9, .int v10, .long v11, .int v12, .int v13, .int v14, .int v15, .ref m16, .ref m17, .ref m18, .ref m19, .ref m20, .ref m21, .ref m22, .ref m23, .int v24, .ref m25, .ref m26, .ref m27, .ref m28, .ref m29, .int v30, .ref m31, .ref m32, .ref m33, .int v34, .int v35, .int v36, .ref m37, .ref m38, .ref m39, .ref m40, .long v41])), (m17, .inl (k 0, 30, .inl f17)), (m18, .inl (k 0, 250, .inl f18)), (m26, .inl (k 0, 8, .inl L15a3))]) [0, 1, 2, 3] rfl, hD.sub (ws' := [(mo, .inr (12, [.int v0, .ref m1, .ref m2, .ref m3, .ref m4, .ref m5, .int v6, .int v7, .int v8, .int v9, .int v10, .long v11, .int v12, .int v13, .int v14, .int v15, .ref m16, .ref m17, .ref m18, .ref m19, .ref m20, .ref m21, .ref m22, .ref m23, .int v24, .ref m25, .ref m26, .ref m27, .ref m28, .ref m29, .int v30, .ref m31, .ref m32, .ref m33, .int v34, .int v35, .int v36, .ref m37, .ref m38, .ref m39, .ref m40, .long v41])), (m17, .inl (k 0, 30, .inl f17)), (m18, .inl (k 0, 250, .inl f18)), (m26, .inl (k 0, 8, .inl L15a3))]) [0, 1, 2, 3] (by decide) rfl, hS, lv_sub hl [1, 2, 3, 0] rfl⟩
    · skip
      have zh_8 : L15l4.toInt < x_7.toInt := z_nle h_8
      refine lv_iload_n hx hb dX12_lowers_26 rfl (lv_at hl 1 rfl) ?_
      refine lv_iload hx hb dX12_lowers_27 (lv_at hl 4 rfl) ?_
      have hPc := hP.sub (ws' := []) [] rfl
      have hDc := hD.sub (ws' := []) [] (by decide) rfl
      have hFc := va_free (wc := []) hD hS hA [] rfl
      refine va_calli (va_runS (As := [.int p0, .int L15l4]) (rest := []) ⟨hx, hb, hml, hown, hts⟩ (c_X12_isBit l D k p0 L15l4 H.size) (va_cwS 2 hts (gS tw_7_107 tw_7_108 tw_1_13 tw_7_109) rfl rfl rfl hdS_X12_isBit ⟨Nat.le_of_ble_eq_true rfl, Nat.le_of_ble_eq_true rfl⟩) (cz_S hK hPc hDc hN [.int p0, .int L15l4]) rfl rfl hl.1 rfl (lv_room (Nat.le_of_ble_eq_true rfl)) dX12_lowers_29 ⟨Nat.le_of_ble_eq_true rfl, Nat.le_of_ble_eq_true rfl⟩) hS (fun q _ h => hFc q h) hFc (fun r_10 uZ tZ H1 locs ht hvm hw hB hz1 hk1 hS => ?_)
      obtain ⟨hP1, hK1, hD1⟩ := hB
      rw [ht] at hP1
      obtain ⟨hP, hD⟩ := va_join (wr := [(mo, .inr (12, [.int v0, .ref m1, .ref m2, .ref m3, .ref m4, .ref m5, .int v6, .int v7, .int v8, .int v9, .int v10, .long v11, .int v12, .int v13, .int v14, .int v15, .ref m16, .ref m17, .ref m18, .ref m19, .ref m20, .ref m21, .ref m22, .ref m23, .int v24, .ref m25, .ref m26, .ref m27, .ref m28, .ref m29, .int v30, .ref m31, .ref m32, .ref m33, .int v34, .int v35, .int v36, .ref m37, .ref m38, .ref m39, .ref m40, .long v41])), (m17, .inl (k 0, 30, .inl f17)), (m18, .inl (k 0, 250, .inl f18)), (m26, .inl (k 0, 8, .inl L15a3))]) (w1 := []) hP hD [] [0, 1, 2, 3] rfl rfl (by decide) (by decide) hk1 hFc hP1 hD1
      clear hK1 hP1 hD1 hPc hDc hFc
      clear hk1 hz1 ht hvm
      have hP : va_P D vwCl [(mo, .inr (12, [.int v0, .ref m1, .ref m2, .ref m3, .ref m4, .ref m5, .int v6, .int v7, .int v8, .int v9, .int v10, .long v11, .int v12, .int v13, .int v14, .int v15, .ref m16, .ref m17, .ref m18, .ref m19, .ref m20, .ref m21, .ref m22, .ref m23, .int v24, .ref m25, .ref m26, .ref m27, .ref m28, .ref m29, .int v30, .ref m31, .ref m32, .ref m33, .int v34, .int v35, .int v36, .ref m37, .ref m38, .ref m39, .ref m40, .long v41])), (m17, .inl (k 0, 30, .inl f17)), (m18, .inl (k 0, 250, .inl f18)), (m26, .inl (k 0, 8, .inl L15a3))] H1 := hP
      have hD : va_D A [(mo, .inr (12, [.int v0, .ref m1, .ref m2, .ref m3, .ref m4, .ref m5, .int v6, .int v7, .int v8, .int v9, .int v10, .long v11, .int v12, .int v13, .int v14, .int v15, .ref m16, .ref m17, .ref m18, .ref m19, .ref m20, .ref m21, .ref m22, .ref m23, .int v24, .ref m25, .ref m26, .ref m27, .ref m28, .ref m29, .int v30, .ref m31, .ref m32, .ref m33, .int v34, .int v35, .int v36, .ref m37, .ref m38, .ref m39, .ref m40, .long v41])), (m17, .inl (k 0, 30, .inl f17)), (m18, .inl (k 0, 250, .inl f18)), (m26, .inl (k 0, 8, .inl L15a3))] := hD
      generalize H1 = H at hP hS ⊢
      have hw_11 : (0 ≤ r_10.toInt ∧ r_10.toInt ≤ 1) ∧ (r_10 = bitOf p0 L15l4) := hw
      obtain ⟨hw_12, hw_13⟩ := hw_11
      clear hw
      refine lv_if_ne (tgt := 38) hx hb dX12_lowers_32 (by decide) (fun h_14 => ?_) (fun h_14 => ?_)
      · skip
        have zh_14 : ¬ r_10.toInt = 0 := z_ne h_14
        refine lv_aload_n hx hb dX12_lowers_38 rfl (lv_at hl 0 rfl) ?_
        refine va_get (D := D) (ci := 12) (v := .ref m18) (C := RX12) (T := TX12) (N := 42) hx hb hts iT_X12 hown hK hP 0 rfl rfl 18 (by decide) (hts _ tw_6_71) (fun _ h9 => h9) rfl dX12_lowers_39 ?_
        refine lv_iconst (v := 5) hx hb dX12_lowers_42 (by decide) ?_
        refine lv_iload hx hb dX12_lowers_43 (lv_at hl 4 rfl) ?_
        refine lv_imul hx hb dX12_lowers_45 ?_
        refine lv_topi (fun x_15 ex_15 => ?_)
        have zx_15 : x_15.toInt = 5 * L15l4.toInt := by rw [ex_15]; exact z_mul rfl rfl (by omega) (by omega)
        refine va_iald hx hb hK hP 2 0 rfl rfl (z_in (by omega) (by omega)) dX12_lowers_46 ?_
        refine lv_topi (fun x_16 ex_16 => ?_)
        have zx_16r0 : 0 ≤ x_16.toInt ∧ x_16.toInt ≤ 7 := by rw [ex_16]; exact PR.ld hp_f18_0 (by omega) (by omega) (by omega)
        refine lv_istore (lv' := [(5, .int x_16), (0, .ref mo), (1, .int p0), (2, .int p1), (3, .int L2l3), (4, .int L15l4)]) hx hb dX12_lowers_47 hl (by decide) rfl (fun ls hl => ?_)
        refine lv_aload_n hx hb dX12_lowers_49 rfl (lv_at hl 1 rfl) ?_
        refine va_get (D := D) (ci := 12) (v := .ref m18) (C := RX12) (T := TX12) (N := 42) hx hb hts iT_X12 hown hK hP 0 rfl rfl 18 (by decide) (hts _ tw_6_71) (fun _ h9 => h9) rfl dX12_lowers_50 ?_
        refine lv_iconst (v := 5) hx hb dX12_lowers_53 (by decide) ?_
        refine lv_iload hx hb dX12_lowers_54 (lv_at hl 5 rfl) ?_
        refine lv_imul hx hb dX12_lowers_56 ?_
        refine lv_topi (fun x_17 ex_17 => ?_)
        obtain rfl : x_15 = x_17 := ex_15.trans ex_17.symm
        refine lv_iconst (v := 1) hx hb dX12_lowers_57 (by decide) ?_
        refine lv_iadd hx hb dX12_lowers_58 ?_
        refine lv_topi (fun x_18 ex_18 => ?_)
        have zx_18 : x_18.toInt = x_15.toInt + 1 := by rw [ex_18]; exact z_add rfl rfl (by omega) (by omega)
        refine va_iald hx hb hK hP 2 0 rfl rfl (z_in (by omega) (by omega)) dX12_lowers_59 ?_
        refine lv_topi (fun x_19 ex_19 => ?_)
        have zx_19r1 : 0 ≤ x_19.toInt ∧ x_19.toInt ≤ 7 := by rw [ex_19]; exact PR.ld hp_f18_1 (by omega) (by omega) (by omega)
        refine lv_istore (lv' := [(6, .int x_19), (5, .int x_16), (0, .ref mo), (1, .int p0), (2, .int p1), (3, .int L2l3), (4, .int L15l4)]) hx hb dX12_lowers_60 hl (by decide) rfl (fun ls hl => ?_)
        refine lv_aload_n hx hb dX12_lowers_62 rfl (lv_at hl 2 rfl) ?_
        refine va_get (D := D) (ci := 12) (v := .ref m26) (C := RX12) (T := TX12) (N := 42) hx hb hts iT_X12 hown hK hP 0 rfl rfl 26 (by decide) (hts _ tw_6_79) (fun _ h9 => h9) rfl dX12_lowers_63 ?_
        refine lv_iload hx hb dX12_lowers_66 (lv_at hl 1 rfl) ?_
        refine va_iald hx hb hK hP 3 0 rfl rfl (z_in (by omega) (by omega)) dX12_lowers_68 ?_
        refine lv_topi (fun x_20 ex_20 => ?_)
        have zx_20r0 : 0 ≤ x_20.toInt ∧ x_20.toInt ≤ 100000 := by rw [ex_20]; exact PR.ld L15a3h0 (by omega) (by omega) (by omega)
        have zmnx_20 : x_20.toInt = 100000 ∨ x_20.toInt ≤ 619 := by rw [ex_20]; exact MN.ld L15a3h1 (by omega) (by omega)
        refine lv_aload_n hx hb dX12_lowers_69 rfl (lv_at hl 2 rfl) ?_
        refine lv_iload hx hb dX12_lowers_70 (lv_at hl 6 rfl) ?_
        refine lv_iload_n hx hb dX12_lowers_72 rfl (lv_at hl 4 rfl) ?_
        have hPc := hP.sub (ws' := [(mo, .inr (12, [.int v0, .ref m1, .ref m2, .ref m3, .ref m4, .ref m5, .int v6, .int v7, .int v8, .int v9, .int v10, .long v11, .int v12, .int v13, .int v14, .int v15, .ref m16, .ref m17, .ref m18, .ref m19, .ref m20, .ref m21, .ref m22, .ref m23, .int v24, .ref m25, .ref m26, .ref m27, .ref m28, .ref m29, .int v30, .ref m31, .ref m32, .ref m33, .int v34, .int v35, .int v36, .ref m37, .ref m38, .ref m39, .ref m40, .long v41])), (m18, .inl (k 0, 250, .inl f18))]) [0, 2] rfl
        have hDc := hD.sub (ws' := [(mo, .inr (12, [.int v0, .ref m1, .ref m2, .ref m3, .ref m4, .ref m5, .int v6, .int v7, .int v8, .int v9, .int v10, .long v11, .int v12, .int v13, .int v14, .int v15, .ref m16, .ref m17, .ref m18, .ref m19, .ref m20, .ref m21, .ref m22, .ref m23, .int v24, .ref m25, .ref m26, .ref m27, .ref m28, .ref m29, .int v30, .ref m31, .ref m32, .ref m33, .int v34, .int v35, .int v36, .ref m37, .ref m38, .ref m39, .ref m40, .long v41])), (m18, .inl (k 0, 250, .inl f18))]) [0, 2] (by decide) rfl
        have hFc := va_free (wc := [(mo, .inr (12, [.int v0, .ref m1, .ref m2, .ref m3, .ref m4, .ref m5, .int v6, .int v7, .int v8, .int v9, .int v10, .long v11, .int v12, .int v13, .int v14, .int v15, .ref m16, .ref m17, .ref m18, .ref m19, .ref m20, .ref m21, .ref m22, .ref m23, .int v24, .ref m25, .ref m26, .ref m27, .ref m28, .ref m29, .int v30, .ref m31, .ref m32, .ref m33, .int v34, .int v35, .int v36, .ref m37, .ref m38, .ref m39, .ref m40, .long v41])), (m18, .inl (k 0, 250, .inl f18))]) hD hS hA [0, 2] rfl
        refine va_calli (va_runV (C := RX12) (As := [.int L15l4, .int p1]) (rest := [.int x_20]) ⟨hx, hb, hml, hown, hts⟩ (c_X12_takes_ l D k mo L15l4 p1 v0 m1 m2 m3 m4 m5 v6 v7 v8 v9 v10 v11 v12 v13 v14 v15 m16 m17 m18 m19 m20 m21 m22 m23 v24 m25 m26 m27 m28 m29 v30 m31 m32 m33 v34 v35 v36 m37 m38 m39 m40 v41 f18 H.size (show 0 ≤ L15l4.toInt ∧ L15l4.toInt ≤ 9 from by omega) (show 0 ≤ v6.toInt ∧ v6.toInt ≤ 1000 from by omega) (show 0 ≤ v24.toInt ∧ v24.toInt ≤ 1023 from by omega) hp_f18_0 hp_f18_1 hp_f18_2 hp_f18_3) (cwV 2 hts (gV tw_7_157 tw_7_159 tw_p_68 tw_1_13 tw_7_160) rfl rfl rfl hdV_X12_takes_ ⟨Nat.le_of_ble_eq_true rfl, Nat.le_of_ble_eq_true rfl⟩) (cz_V hK hPc hDc hN (ci := 12) (q0 := 0) rfl rfl [.int L15l4, .int p1]) rfl rfl hl.1 rfl (lv_room (Nat.le_of_ble_eq_true rfl)) dX12_lowers_73 ⟨Nat.le_of_ble_eq_true rfl, Nat.le_of_ble_eq_true rfl⟩) hS (fun q _ h => hFc q h) hFc (fun r_21 uZ tZ H1 locs ht hvm hw hB hz1 hk1 hS => ?_)
        obtain ⟨hP1, hK1, hD1⟩ := hB
        rw [ht] at hP1
        obtain ⟨hP, hD⟩ := va_join (wr := [(m17, .inl (k 0, 30, .inl f17)), (m26, .inl (k 0, 8, .inl L15a3))]) (w1 := [(mo, .inr (12, [.int v0, .ref m1, .ref m2, .ref m3, .ref m4, .ref m5, .int v6, .int v7, .int v8, .int v9, .int v10, .long v11, .int v12, .int v13, .int v14, .int v15, .ref m16, .ref m17, .ref m18, .ref m19, .ref m20, .ref m21, .ref m22, .ref m23, .int v24, .ref m25, .ref m26, .ref m27, .ref m28, .ref m29, .int v30, .ref m31, .ref m32, .ref m33, .int v34, .int v35, .int v36, .ref m37, .ref m38, .ref m39, .ref m40, .long v41])), (m18, .inl (k 0, 250, .inl f18))]) hP hD [0, 2] [1, 3] rfl rfl (by decide) (by decide) hk1 hFc hP1 hD1
        clear hK1 hP1 hD1 hPc hDc hFc
        clear hk1 hz1 ht hvm
        have hP : va_P D vwCl [(m17, .inl (k 0, 30, .inl f17)), (m26, .inl (k 0, 8, .inl L15a3)), (mo, .inr (12, [.int v0, .ref m1, .ref m2, .ref m3, .ref m4, .ref m5, .int v6, .int v7, .int v8, .int v9, .int v10, .long v11, .int v12, .int v13, .int v14, .int v15, .ref m16, .ref m17, .ref m18, .ref m19, .ref m20, .ref m21, .ref m22, .ref m23, .int v24, .ref m25, .ref m26, .ref m27, .ref m28, .ref m29, .int v30, .ref m31, .ref m32, .ref m33, .int v34, .int v35, .int v36, .ref m37, .ref m38, .ref m39, .ref m40, .long v41])), (m18, .inl (k 0, 250, .inl f18))] H1 := hP
        have hD : va_D A [(m17, .inl (k 0, 30, .inl f17)), (m26, .inl (k 0, 8, .inl L15a3)), (mo, .inr (12, [.int v0, .ref m1, .ref m2, .ref m3, .ref m4, .ref m5, .int v6, .int v7, .int v8, .int v9, .int v10, .long v11, .int v12, .int v13, .int v14, .int v15, .ref m16, .ref m17, .ref m18, .ref m19, .ref m20, .ref m21, .ref m22, .ref m23, .int v24, .ref m25, .ref m26, .ref m27, .ref m28, .ref m29, .int v30, .ref m31, .ref m32, .ref m33, .int v34, .int v35, .int v36, .ref m37, .ref m38, .ref m39, .ref m40, .long v41])), (m18, .inl (k 0, 250, .inl f18))] := hD
        generalize H1 = H at hP hS ⊢
        have hw_22 : (0 ≤ r_21.toInt ∧ r_21.toInt ≤ 70) ∧ (r_21 = takesOf f18 L15l4 p1) ∧ ((f18 (5 * L15l4 + 2).toNatClampNeg).toInt ≤ r_21.toInt) := hw
        obtain ⟨hw_23, hw_24, hw_25⟩ := hw_22
        clear hw
        refine lv_iadd hx hb dX12_lowers_76 ?_
        refine lv_topi (fun x_26 ex_26 => ?_)
        have zx_26 : x_26.toInt = x_20.toInt + r_21.toInt := by rw [ex_26]; exact z_add rfl rfl (by omega) (by omega)
        refine lv_aload_n hx hb dX12_lowers_77 rfl (lv_at hl 2 rfl) ?_
        refine va_get (D := D) (ci := 12) (v := .ref m26) (C := RX12) (T := TX12) (N := 42) hx hb hts iT_X12 hown hK hP 2 rfl rfl 26 (by decide) (hts _ tw_6_79) (fun _ h9 => h9) rfl dX12_lowers_78 ?_
        refine lv_iload hx hb dX12_lowers_81 (lv_at hl 0 rfl) ?_
        refine va_iald hx hb hK hP 1 0 rfl rfl (z_in (by omega) (by omega)) dX12_lowers_83 ?_
        refine lv_topi (fun x_27 ex_27 => ?_)
        have zx_27r0 : 0 ≤ x_27.toInt ∧ x_27.toInt ≤ 100000 := by rw [ex_27]; exact PR.ld L15a3h0 (by omega) (by omega) (by omega)
        have zmnx_27 : x_27.toInt = 100000 ∨ x_27.toInt ≤ 619 := by rw [ex_27]; exact MN.ld L15a3h1 (by omega) (by omega)
        refine lv_icmp_ge (tgt := 109) hx hb dX12_lowers_84 (by decide) (fun h_28 => ?_) (fun h_28 => ?_)
        · skip
          have zh_28 : x_27.toInt ≤ x_26.toInt := z_le h_28
          refine lv_aload_n hx hb dX12_lowers_109 rfl (lv_at hl 2 rfl) ?_
          refine va_get (D := D) (ci := 12) (v := .ref m26) (C := RX12) (T := TX12) (N := 42) hx hb hts iT_X12 hown hK hP 2 rfl rfl 26 (by decide) (hts _ tw_6_79) (fun _ h9 => h9) rfl dX12_lowers_110 ?_
          refine lv_iload hx hb dX12_lowers_113 (lv_at hl 0 rfl) ?_
          refine va_iald hx hb hK hP 1 0 rfl rfl (z_in (by omega) (by omega)) dX12_lowers_115 ?_
          refine lv_topi (fun x_29 ex_29 => ?_)
          obtain rfl : x_27 = x_29 := ex_27.trans ex_29.symm
          refine lv_aload_n hx hb dX12_lowers_116 rfl (lv_at hl 2 rfl) ?_
          refine lv_iload hx hb dX12_lowers_117 (lv_at hl 6 rfl) ?_
          refine lv_iload_n hx hb dX12_lowers_119 rfl (lv_at hl 4 rfl) ?_
          have hPc := hP.sub (ws' := [(mo, .inr (12, [.int v0, .ref m1, .ref m2, .ref m3, .ref m4, .ref m5, .int v6, .int v7, .int v8, .int v9, .int v10, .long v11, .int v12, .int v13, .int v14, .int v15, .ref m16, .ref m17, .ref m18, .ref m19, .ref m20, .ref m21, .ref m22, .ref m23, .int v24, .ref m25, .ref m26, .ref m27, .ref m28, .ref m29, .int v30, .ref m31, .ref m32, .ref m33, .int v34, .int v35, .int v36, .ref m37, .ref m38, .ref m39, .ref m40, .long v41])), (m18, .inl (k 0, 250, .inl f18))]) [2, 3] rfl
          have hDc := hD.sub (ws' := [(mo, .inr (12, [.int v0, .ref m1, .ref m2, .ref m3, .ref m4, .ref m5, .int v6, .int v7, .int v8, .int v9, .int v10, .long v11, .int v12, .int v13, .int v14, .int v15, .ref m16, .ref m17, .ref m18, .ref m19, .ref m20, .ref m21, .ref m22, .ref m23, .int v24, .ref m25, .ref m26, .ref m27, .ref m28, .ref m29, .int v30, .ref m31, .ref m32, .ref m33, .int v34, .int v35, .int v36, .ref m37, .ref m38, .ref m39, .ref m40, .long v41])), (m18, .inl (k 0, 250, .inl f18))]) [2, 3] (by decide) rfl
          have hFc := va_free (wc := [(mo, .inr (12, [.int v0, .ref m1, .ref m2, .ref m3, .ref m4, .ref m5, .int v6, .int v7, .int v8, .int v9, .int v10, .long v11, .int v12, .int v13, .int v14, .int v15, .ref m16, .ref m17, .ref m18, .ref m19, .ref m20, .ref m21, .ref m22, .ref m23, .int v24, .ref m25, .ref m26, .ref m27, .ref m28, .ref m29, .int v30, .ref m31, .ref m32, .ref m33, .int v34, .int v35, .int v36, .ref m37, .ref m38, .ref m39, .ref m40, .long v41])), (m18, .inl (k 0, 250, .inl f18))]) hD hS hA [2, 3] rfl
          refine va_calli (va_runV (C := RX12) (As := [.int L15l4, .int p1]) (rest := [.int x_27]) ⟨hx, hb, hml, hown, hts⟩ (c_X12_takes_ l D k mo L15l4 p1 v0 m1 m2 m3 m4 m5 v6 v7 v8 v9 v10 v11 v12 v13 v14 v15 m16 m17 m18 m19 m20 m21 m22 m23 v24 m25 m26 m27 m28 m29 v30 m31 m32 m33 v34 v35 v36 m37 m38 m39 m40 v41 f18 H.size (show 0 ≤ L15l4.toInt ∧ L15l4.toInt ≤ 9 from by omega) (show 0 ≤ v6.toInt ∧ v6.toInt ≤ 1000 from by omega) (show 0 ≤ v24.toInt ∧ v24.toInt ≤ 1023 from by omega) hp_f18_0 hp_f18_1 hp_f18_2 hp_f18_3) (cwV 2 hts (gV tw_7_157 tw_7_159 tw_p_68 tw_1_13 tw_7_160) rfl rfl rfl hdV_X12_takes_ ⟨Nat.le_of_ble_eq_true rfl, Nat.le_of_ble_eq_true rfl⟩) (cz_V hK hPc hDc hN (ci := 12) (q0 := 0) rfl rfl [.int L15l4, .int p1]) rfl rfl hl.1 rfl (lv_room (Nat.le_of_ble_eq_true rfl)) dX12_lowers_120 ⟨Nat.le_of_ble_eq_true rfl, Nat.le_of_ble_eq_true rfl⟩) hS (fun q _ h => hFc q h) hFc (fun r_30 uZ tZ H1 locs ht hvm hw hB hz1 hk1 hS => ?_)
          obtain ⟨hP1, hK1, hD1⟩ := hB
          rw [ht] at hP1
          obtain ⟨hP, hD⟩ := va_join (wr := [(m17, .inl (k 0, 30, .inl f17)), (m26, .inl (k 0, 8, .inl L15a3))]) (w1 := [(mo, .inr (12, [.int v0, .ref m1, .ref m2, .ref m3, .ref m4, .ref m5, .int v6, .int v7, .int v8, .int v9, .int v10, .long v11, .int v12, .int v13, .int v14, .int v15, .ref m16, .ref m17, .ref m18, .ref m19, .ref m20, .ref m21, .ref m22, .ref m23, .int v24, .ref m25, .ref m26, .ref m27, .ref m28, .ref m29, .int v30, .ref m31, .ref m32, .ref m33, .int v34, .int v35, .int v36, .ref m37, .ref m38, .ref m39, .ref m40, .long v41])), (m18, .inl (k 0, 250, .inl f18))]) hP hD [2, 3] [0, 1] rfl rfl (by decide) (by decide) hk1 hFc hP1 hD1
          clear hK1 hP1 hD1 hPc hDc hFc
          clear hk1 hz1 ht hvm
          have hP : va_P D vwCl [(m17, .inl (k 0, 30, .inl f17)), (m26, .inl (k 0, 8, .inl L15a3)), (mo, .inr (12, [.int v0, .ref m1, .ref m2, .ref m3, .ref m4, .ref m5, .int v6, .int v7, .int v8, .int v9, .int v10, .long v11, .int v12, .int v13, .int v14, .int v15, .ref m16, .ref m17, .ref m18, .ref m19, .ref m20, .ref m21, .ref m22, .ref m23, .int v24, .ref m25, .ref m26, .ref m27, .ref m28, .ref m29, .int v30, .ref m31, .ref m32, .ref m33, .int v34, .int v35, .int v36, .ref m37, .ref m38, .ref m39, .ref m40, .long v41])), (m18, .inl (k 0, 250, .inl f18))] H1 := hP
          have hD : va_D A [(m17, .inl (k 0, 30, .inl f17)), (m26, .inl (k 0, 8, .inl L15a3)), (mo, .inr (12, [.int v0, .ref m1, .ref m2, .ref m3, .ref m4, .ref m5, .int v6, .int v7, .int v8, .int v9, .int v10, .long v11, .int v12, .int v13, .int v14, .int v15, .ref m16, .ref m17, .ref m18, .ref m19, .ref m20, .ref m21, .ref m22, .ref m23, .int v24, .ref m25, .ref m26, .ref m27, .ref m28, .ref m29, .int v30, .ref m31, .ref m32, .ref m33, .int v34, .int v35, .int v36, .ref m37, .ref m38, .ref m39, .ref m40, .long v41])), (m18, .inl (k 0, 250, .inl f18))] := hD
          generalize H1 = H at hP hS ⊢
          have hw_31 : (0 ≤ r_30.toInt ∧ r_30.toInt ≤ 70) ∧ (r_30 = takesOf f18 L15l4 p1) ∧ ((f18 (5 * L15l4 + 2).toNatClampNeg).toInt ≤ r_30.toInt) := hw
          obtain ⟨hw_32, hw_33, hw_34⟩ := hw_31
          clear hw
          obtain rfl : r_21 = r_30 := hw_24.trans hw_33.symm
          refine lv_iadd hx hb dX12_lowers_123 ?_
          refine lv_topi (fun x_35 ex_35 => ?_)
          have zx_35 : x_35.toInt = x_27.toInt + r_21.toInt := by rw [ex_35]; exact z_add rfl rfl (by omega) (by omega)
          refine lv_aload_n hx hb dX12_lowers_124 rfl (lv_at hl 2 rfl) ?_
          refine va_get (D := D) (ci := 12) (v := .ref m26) (C := RX12) (T := TX12) (N := 42) hx hb hts iT_X12 hown hK hP 2 rfl rfl 26 (by decide) (hts _ tw_6_79) (fun _ h9 => h9) rfl dX12_lowers_125 ?_
          refine lv_iload hx hb dX12_lowers_128 (lv_at hl 1 rfl) ?_
          refine va_iald hx hb hK hP 1 0 rfl rfl (z_in (by omega) (by omega)) dX12_lowers_130 ?_
          refine lv_topi (fun x_36 ex_36 => ?_)
          obtain rfl : x_20 = x_36 := ex_20.trans ex_36.symm
          refine lv_icmp_ge (tgt := 156) hx hb dX12_lowers_131 (by decide) (fun h_37 => ?_) (fun h_37 => ?_)
          · skip
            have zh_37 : x_20.toInt ≤ x_35.toInt := z_le h_37
            obtain ⟨x_38, ex_38⟩ : ∃ y : Int32, y = L15l4 + 1 := ⟨_, rfl⟩
            have zx_38 : x_38.toInt = L15l4.toInt + 1 := by rw [ex_38]; exact z_add rfl rfl (by omega) (by omega)
            refine lv_iinc (v := x_38) (lv' := [(4, .int x_38), (6, .int x_19), (5, .int x_16), (0, .ref mo), (1, .int p0), (2, .int p1), (3, .int L2l3)]) hx hb dX12_lowers_156 hl (k := 6) rfl (by rw [ex_38]; rfl) (by decide) rfl (fun ls hl => ?_)
            refine lv_goto (tgt := 15) hx hb dX12_lowers_159 (by decide) ?_
            exact ih_5 _ _ _ _ (by omega) ⟨x_38, L15a3, rfl, (show 0 ≤ x_38.toInt ∧ x_38.toInt ≤ 10 from by omega), L15a3h0, L15a3h1, hP.sub (ws' := [(mo, .inr (12, [.int v0, .ref m1, .ref m2, .ref m3, .ref m4, .ref m5, .int v6, .int v7, .int v8, .int v9, .int v10, .long v11, .int v12, .int v13, .int v14, .int v15, .ref m16, .ref m17, .ref m18, .ref m19, .ref m20, .ref m21, .ref m22, .ref m23, .int v24, .ref m25, .ref m26, .ref m27, .ref m28, .ref m29, .int v30, .ref m31, .ref m32, .ref m33, .int v34, .int v35, .int v36, .ref m37, .ref m38, .ref m39, .ref m40, .long v41])), (m17, .inl (k 0, 30, .inl f17)), (m18, .inl (k 0, 250, .inl f18)), (m26, .inl (k 0, 8, .inl L15a3))]) [2, 0, 3, 1] rfl, hD.sub (ws' := [(mo, .inr (12, [.int v0, .ref m1, .ref m2, .ref m3, .ref m4, .ref m5, .int v6, .int v7, .int v8, .int v9, .int v10, .long v11, .int v12, .int v13, .int v14, .int v15, .ref m16, .ref m17, .ref m18, .ref m19, .ref m20, .ref m21, .ref m22, .ref m23, .int v24, .ref m25, .ref m26, .ref m27, .ref m28, .ref m29, .int v30, .ref m31, .ref m32, .ref m33, .int v34, .int v35, .int v36, .ref m37, .ref m38, .ref m39, .ref m40, .long v41])), (m17, .inl (k 0, 30, .inl f17)), (m18, .inl (k 0, 250, .inl f18)), (m26, .inl (k 0, 8, .inl L15a3))]) [2, 0, 3, 1] (by decide) rfl, hS, lv_sub hl [3, 4, 5, 6, 0] rfl⟩
          · skip
            have zh_37 : x_35.toInt < x_20.toInt := z_nle h_37
            refine lv_aload_n hx hb dX12_lowers_134 rfl (lv_at hl 2 rfl) ?_
            refine va_get (D := D) (ci := 12) (v := .ref m26) (C := RX12) (T := TX12) (N := 42) hx hb hts iT_X12 hown hK hP 2 rfl rfl 26 (by decide) (hts _ tw_6_79) (fun _ h9 => h9) rfl dX12_lowers_135 ?_
            refine lv_iload hx hb dX12_lowers_138 (lv_at hl 1 rfl) ?_
            refine lv_aload_n hx hb dX12_lowers_140 rfl (lv_at hl 2 rfl) ?_
            refine va_get (D := D) (ci := 12) (v := .ref m26) (C := RX12) (T := TX12) (N := 42) hx hb hts iT_X12 hown hK hP 2 rfl rfl 26 (by decide) (hts _ tw_6_79) (fun _ h9 => h9) rfl dX12_lowers_141 ?_
            refine lv_iload hx hb dX12_lowers_144 (lv_at hl 0 rfl) ?_
            refine va_iald hx hb hK hP 1 0 rfl rfl (z_in (by omega) (by omega)) dX12_lowers_146 ?_
            refine lv_topi (fun x_39 ex_39 => ?_)
            obtain rfl : x_27 = x_39 := ex_27.trans ex_39.symm
            refine lv_aload_n hx hb dX12_lowers_147 rfl (lv_at hl 2 rfl) ?_
            refine lv_iload hx hb dX12_lowers_148 (lv_at hl 6 rfl) ?_
            refine lv_iload_n hx hb dX12_lowers_150 rfl (lv_at hl 4 rfl) ?_
            have hPc := hP.sub (ws' := [(mo, .inr (12, [.int v0, .ref m1, .ref m2, .ref m3, .ref m4, .ref m5, .int v6, .int v7, .int v8, .int v9, .int v10, .long v11, .int v12, .int v13, .int v14, .int v15, .ref m16, .ref m17, .ref m18, .ref m19, .ref m20, .ref m21, .ref m22, .ref m23, .int v24, .ref m25, .ref m26, .ref m27, .ref m28, .ref m29, .int v30, .ref m31, .ref m32, .ref m33, .int v34, .int v35, .int v36, .ref m37, .ref m38, .ref m39, .ref m40, .long v41])), (m18, .inl (k 0, 250, .inl f18))]) [2, 3] rfl
            have hDc := hD.sub (ws' := [(mo, .inr (12, [.int v0, .ref m1, .ref m2, .ref m3, .ref m4, .ref m5, .int v6, .int v7, .int v8, .int v9, .int v10, .long v11, .int v12, .int v13, .int v14, .int v15, .ref m16, .ref m17, .ref m18, .ref m19, .ref m20, .ref m21, .ref m22, .ref m23, .int v24, .ref m25, .ref m26, .ref m27, .ref m28, .ref m29, .int v30, .ref m31, .ref m32, .ref m33, .int v34, .int v35, .int v36, .ref m37, .ref m38, .ref m39, .ref m40, .long v41])), (m18, .inl (k 0, 250, .inl f18))]) [2, 3] (by decide) rfl
            have hFc := va_free (wc := [(mo, .inr (12, [.int v0, .ref m1, .ref m2, .ref m3, .ref m4, .ref m5, .int v6, .int v7, .int v8, .int v9, .int v10, .long v11, .int v12, .int v13, .int v14, .int v15, .ref m16, .ref m17, .ref m18, .ref m19, .ref m20, .ref m21, .ref m22, .ref m23, .int v24, .ref m25, .ref m26, .ref m27, .ref m28, .ref m29, .int v30, .ref m31, .ref m32, .ref m33, .int v34, .int v35, .int v36, .ref m37, .ref m38, .ref m39, .ref m40, .long v41])), (m18, .inl (k 0, 250, .inl f18))]) hD hS hA [2, 3] rfl
            refine va_calli (va_runV (C := RX12) (As := [.int L15l4, .int p1]) (rest := [.int x_27, .int x_16, .ref m26]) ⟨hx, hb, hml, hown, hts⟩ (c_X12_takes_ l D k mo L15l4 p1 v0 m1 m2 m3 m4 m5 v6 v7 v8 v9 v10 v11 v12 v13 v14 v15 m16 m17 m18 m19 m20 m21 m22 m23 v24 m25 m26 m27 m28 m29 v30 m31 m32 m33 v34 v35 v36 m37 m38 m39 m40 v41 f18 H.size (show 0 ≤ L15l4.toInt ∧ L15l4.toInt ≤ 9 from by omega) (show 0 ≤ v6.toInt ∧ v6.toInt ≤ 1000 from by omega) (show 0 ≤ v24.toInt ∧ v24.toInt ≤ 1023 from by omega) hp_f18_0 hp_f18_1 hp_f18_2 hp_f18_3) (cwV 2 hts (gV tw_7_157 tw_7_159 tw_p_68 tw_1_13 tw_7_160) rfl rfl rfl hdV_X12_takes_ ⟨Nat.le_of_ble_eq_true rfl, Nat.le_of_ble_eq_true rfl⟩) (cz_V hK hPc hDc hN (ci := 12) (q0 := 0) rfl rfl [.int L15l4, .int p1]) rfl rfl hl.1 rfl (lv_room (Nat.le_of_ble_eq_true rfl)) dX12_lowers_151 ⟨Nat.le_of_ble_eq_true rfl, Nat.le_of_ble_eq_true rfl⟩) hS (fun q _ h => hFc q h) hFc (fun r_40 uZ tZ H1 locs ht hvm hw hB hz1 hk1 hS => ?_)
            obtain ⟨hP1, hK1, hD1⟩ := hB
            rw [ht] at hP1
            obtain ⟨hP, hD⟩ := va_join (wr := [(m17, .inl (k 0, 30, .inl f17)), (m26, .inl (k 0, 8, .inl L15a3))]) (w1 := [(mo, .inr (12, [.int v0, .ref m1, .ref m2, .ref m3, .ref m4, .ref m5, .int v6, .int v7, .int v8, .int v9, .int v10, .long v11, .int v12, .int v13, .int v14, .int v15, .ref m16, .ref m17, .ref m18, .ref m19, .ref m20, .ref m21, .ref m22, .ref m23, .int v24, .ref m25, .ref m26, .ref m27, .ref m28, .ref m29, .int v30, .ref m31, .ref m32, .ref m33, .int v34, .int v35, .int v36, .ref m37, .ref m38, .ref m39, .ref m40, .long v41])), (m18, .inl (k 0, 250, .inl f18))]) hP hD [2, 3] [0, 1] rfl rfl (by decide) (by decide) hk1 hFc hP1 hD1
            clear hK1 hP1 hD1 hPc hDc hFc
            clear hk1 hz1 ht hvm
            have hP : va_P D vwCl [(m17, .inl (k 0, 30, .inl f17)), (m26, .inl (k 0, 8, .inl L15a3)), (mo, .inr (12, [.int v0, .ref m1, .ref m2, .ref m3, .ref m4, .ref m5, .int v6, .int v7, .int v8, .int v9, .int v10, .long v11, .int v12, .int v13, .int v14, .int v15, .ref m16, .ref m17, .ref m18, .ref m19, .ref m20, .ref m21, .ref m22, .ref m23, .int v24, .ref m25, .ref m26, .ref m27, .ref m28, .ref m29, .int v30, .ref m31, .ref m32, .ref m33, .int v34, .int v35, .int v36, .ref m37, .ref m38, .ref m39, .ref m40, .long v41])), (m18, .inl (k 0, 250, .inl f18))] H1 := hP
            have hD : va_D A [(m17, .inl (k 0, 30, .inl f17)), (m26, .inl (k 0, 8, .inl L15a3)), (mo, .inr (12, [.int v0, .ref m1, .ref m2, .ref m3, .ref m4, .ref m5, .int v6, .int v7, .int v8, .int v9, .int v10, .long v11, .int v12, .int v13, .int v14, .int v15, .ref m16, .ref m17, .ref m18, .ref m19, .ref m20, .ref m21, .ref m22, .ref m23, .int v24, .ref m25, .ref m26, .ref m27, .ref m28, .ref m29, .int v30, .ref m31, .ref m32, .ref m33, .int v34, .int v35, .int v36, .ref m37, .ref m38, .ref m39, .ref m40, .long v41])), (m18, .inl (k 0, 250, .inl f18))] := hD
            generalize H1 = H at hP hS ⊢
            have hw_41 : (0 ≤ r_40.toInt ∧ r_40.toInt ≤ 70) ∧ (r_40 = takesOf f18 L15l4 p1) ∧ ((f18 (5 * L15l4 + 2).toNatClampNeg).toInt ≤ r_40.toInt) := hw
            obtain ⟨hw_42, hw_43, hw_44⟩ := hw_41
            clear hw
            obtain rfl : r_21 = r_40 := hw_24.trans hw_43.symm
            refine lv_iadd hx hb dX12_lowers_154 ?_
            refine lv_topi (fun x_45 ex_45 => ?_)
            obtain rfl : x_35 = x_45 := ex_35.trans ex_45.symm
            refine va_iast hx hb hK hP hD hS 1 0 rfl rfl (z_in (by omega) (by omega)) dX12_lowers_155 (fun H locs hP hD hS => ?_)
            obtain ⟨g_46, eg_46⟩ : ∃ z : Nat → Int32, upd L15a3 x_16.toNatClampNeg x_35 = z := ⟨_, rfl⟩
            have hP : va_P D vwCl [(m17, .inl (k 0, 30, .inl f17)), (m26, .inl (k 0, 8, .inl (upd L15a3 x_16.toNatClampNeg x_35))), (mo, .inr (12, [.int v0, .ref m1, .ref m2, .ref m3, .ref m4, .ref m5, .int v6, .int v7, .int v8, .int v9, .int v10, .long v11, .int v12, .int v13, .int v14, .int v15, .ref m16, .ref m17, .ref m18, .ref m19, .ref m20, .ref m21, .ref m22, .ref m23, .int v24, .ref m25, .ref m26, .ref m27, .ref m28, .ref m29, .int v30, .ref m31, .ref m32, .ref m33, .int v34, .int v35, .int v36, .ref m37, .ref m38, .ref m39, .ref m40, .long v41])), (m18, .inl (k 0, 250, .inl f18))] H := hP
            have hD : va_D A [(m17, .inl (k 0, 30, .inl f17)), (m26, .inl (k 0, 8, .inl (upd L15a3 x_16.toNatClampNeg x_35))), (mo, .inr (12, [.int v0, .ref m1, .ref m2, .ref m3, .ref m4, .ref m5, .int v6, .int v7, .int v8, .int v9, .int v10, .long v11, .int v12, .int v13, .int v14, .int v15, .ref m16, .ref m17, .ref m18, .ref m19, .ref m20, .ref m21, .ref m22, .ref m23, .int v24, .ref m25, .ref m26, .ref m27, .ref m28, .ref m29, .int v30, .ref m31, .ref m32, .ref m33, .int v34, .int v35, .int v36, .ref m37, .ref m38, .ref m39, .ref m40, .long v41])), (m18, .inl (k 0, 250, .inl f18))] := hD
            rw [eg_46] at hP hD
            have hp_47 : PR 8 1 0 0 100000 g_46 := by rw [← eg_46]; exact PR.put L15a3h0 ⟨by omega, by omega⟩
            have hp_48 : MN g_46 := by rw [← eg_46]; exact MN.low L15a3h1 (a := x_19) (b := x_16) (xa := x_27) (xb := x_20) (by omega) (by omega) (by omega) (by omega) ex_27 ex_20 (by omega) (by omega) (by omega) (by omega)
            obtain ⟨x_49, ex_49⟩ : ∃ y : Int32, y = L15l4 + 1 := ⟨_, rfl⟩
            have zx_49 : x_49.toInt = L15l4.toInt + 1 := by rw [ex_49]; exact z_add rfl rfl (by omega) (by omega)
            refine lv_iinc (v := x_49) (lv' := [(4, .int x_49), (6, .int x_19), (5, .int x_16), (0, .ref mo), (1, .int p0), (2, .int p1), (3, .int L2l3)]) hx hb dX12_lowers_156 hl (k := 6) rfl (by rw [ex_49]; rfl) (by decide) rfl (fun ls hl => ?_)
            refine lv_goto (tgt := 15) hx hb dX12_lowers_159 (by decide) ?_
            exact ih_5 _ _ _ _ (by omega) ⟨x_49, g_46, rfl, (show 0 ≤ x_49.toInt ∧ x_49.toInt ≤ 10 from by omega), hp_47, hp_48, hP.sub (ws' := [(mo, .inr (12, [.int v0, .ref m1, .ref m2, .ref m3, .ref m4, .ref m5, .int v6, .int v7, .int v8, .int v9, .int v10, .long v11, .int v12, .int v13, .int v14, .int v15, .ref m16, .ref m17, .ref m18, .ref m19, .ref m20, .ref m21, .ref m22, .ref m23, .int v24, .ref m25, .ref m26, .ref m27, .ref m28, .ref m29, .int v30, .ref m31, .ref m32, .ref m33, .int v34, .int v35, .int v36, .ref m37, .ref m38, .ref m39, .ref m40, .long v41])), (m17, .inl (k 0, 30, .inl f17)), (m18, .inl (k 0, 250, .inl f18)), (m26, .inl (k 0, 8, .inl g_46))]) [2, 0, 3, 1] rfl, hD.sub (ws' := [(mo, .inr (12, [.int v0, .ref m1, .ref m2, .ref m3, .ref m4, .ref m5, .int v6, .int v7, .int v8, .int v9, .int v10, .long v11, .int v12, .int v13, .int v14, .int v15, .ref m16, .ref m17, .ref m18, .ref m19, .ref m20, .ref m21, .ref m22, .ref m23, .int v24, .ref m25, .ref m26, .ref m27, .ref m28, .ref m29, .int v30, .ref m31, .ref m32, .ref m33, .int v34, .int v35, .int v36, .ref m37, .ref m38, .ref m39, .ref m40, .long v41])), (m17, .inl (k 0, 30, .inl f17)), (m18, .inl (k 0, 250, .inl f18)), (m26, .inl (k 0, 8, .inl g_46))]) [2, 0, 3, 1] (by decide) rfl, hS, lv_sub hl [3, 4, 5, 6, 0] rfl⟩
        · skip
          have zh_28 : x_26.toInt < x_27.toInt := z_nle h_28
          refine lv_aload_n hx hb dX12_lowers_87 rfl (lv_at hl 2 rfl) ?_
          refine va_get (D := D) (ci := 12) (v := .ref m26) (C := RX12) (T := TX12) (N := 42) hx hb hts iT_X12 hown hK hP 2 rfl rfl 26 (by decide) (hts _ tw_6_79) (fun _ h9 => h9) rfl dX12_lowers_88 ?_
          refine lv_iload hx hb dX12_lowers_91 (lv_at hl 0 rfl) ?_
          refine lv_aload_n hx hb dX12_lowers_93 rfl (lv_at hl 2 rfl) ?_
          refine va_get (D := D) (ci := 12) (v := .ref m26) (C := RX12) (T := TX12) (N := 42) hx hb hts iT_X12 hown hK hP 2 rfl rfl 26 (by decide) (hts _ tw_6_79) (fun _ h9 => h9) rfl dX12_lowers_94 ?_
          refine lv_iload hx hb dX12_lowers_97 (lv_at hl 1 rfl) ?_
          refine va_iald hx hb hK hP 1 0 rfl rfl (z_in (by omega) (by omega)) dX12_lowers_99 ?_
          refine lv_topi (fun x_50 ex_50 => ?_)
          obtain rfl : x_20 = x_50 := ex_20.trans ex_50.symm
          refine lv_aload_n hx hb dX12_lowers_100 rfl (lv_at hl 2 rfl) ?_
          refine lv_iload hx hb dX12_lowers_101 (lv_at hl 6 rfl) ?_
          refine lv_iload_n hx hb dX12_lowers_103 rfl (lv_at hl 4 rfl) ?_
          have hPc := hP.sub (ws' := [(mo, .inr (12, [.int v0, .ref m1, .ref m2, .ref m3, .ref m4, .ref m5, .int v6, .int v7, .int v8, .int v9, .int v10, .long v11, .int v12, .int v13, .int v14, .int v15, .ref m16, .ref m17, .ref m18, .ref m19, .ref m20, .ref m21, .ref m22, .ref m23, .int v24, .ref m25, .ref m26, .ref m27, .ref m28, .ref m29, .int v30, .ref m31, .ref m32, .ref m33, .int v34, .int v35, .int v36, .ref m37, .ref m38, .ref m39, .ref m40, .long v41])), (m18, .inl (k 0, 250, .inl f18))]) [2, 3] rfl
          have hDc := hD.sub (ws' := [(mo, .inr (12, [.int v0, .ref m1, .ref m2, .ref m3, .ref m4, .ref m5, .int v6, .int v7, .int v8, .int v9, .int v10, .long v11, .int v12, .int v13, .int v14, .int v15, .ref m16, .ref m17, .ref m18, .ref m19, .ref m20, .ref m21, .ref m22, .ref m23, .int v24, .ref m25, .ref m26, .ref m27, .ref m28, .ref m29, .int v30, .ref m31, .ref m32, .ref m33, .int v34, .int v35, .int v36, .ref m37, .ref m38, .ref m39, .ref m40, .long v41])), (m18, .inl (k 0, 250, .inl f18))]) [2, 3] (by decide) rfl
          have hFc := va_free (wc := [(mo, .inr (12, [.int v0, .ref m1, .ref m2, .ref m3, .ref m4, .ref m5, .int v6, .int v7, .int v8, .int v9, .int v10, .long v11, .int v12, .int v13, .int v14, .int v15, .ref m16, .ref m17, .ref m18, .ref m19, .ref m20, .ref m21, .ref m22, .ref m23, .int v24, .ref m25, .ref m26, .ref m27, .ref m28, .ref m29, .int v30, .ref m31, .ref m32, .ref m33, .int v34, .int v35, .int v36, .ref m37, .ref m38, .ref m39, .ref m40, .long v41])), (m18, .inl (k 0, 250, .inl f18))]) hD hS hA [2, 3] rfl
          refine va_calli (va_runV (C := RX12) (As := [.int L15l4, .int p1]) (rest := [.int x_20, .int x_19, .ref m26]) ⟨hx, hb, hml, hown, hts⟩ (c_X12_takes_ l D k mo L15l4 p1 v0 m1 m2 m3 m4 m5 v6 v7 v8 v9 v10 v11 v12 v13 v14 v15 m16 m17 m18 m19 m20 m21 m22 m23 v24 m25 m26 m27 m28 m29 v30 m31 m32 m33 v34 v35 v36 m37 m38 m39 m40 v41 f18 H.size (show 0 ≤ L15l4.toInt ∧ L15l4.toInt ≤ 9 from by omega) (show 0 ≤ v6.toInt ∧ v6.toInt ≤ 1000 from by omega) (show 0 ≤ v24.toInt ∧ v24.toInt ≤ 1023 from by omega) hp_f18_0 hp_f18_1 hp_f18_2 hp_f18_3) (cwV 2 hts (gV tw_7_157 tw_7_159 tw_p_68 tw_1_13 tw_7_160) rfl rfl rfl hdV_X12_takes_ ⟨Nat.le_of_ble_eq_true rfl, Nat.le_of_ble_eq_true rfl⟩) (cz_V hK hPc hDc hN (ci := 12) (q0 := 0) rfl rfl [.int L15l4, .int p1]) rfl rfl hl.1 rfl (lv_room (Nat.le_of_ble_eq_true rfl)) dX12_lowers_104 ⟨Nat.le_of_ble_eq_true rfl, Nat.le_of_ble_eq_true rfl⟩) hS (fun q _ h => hFc q h) hFc (fun r_51 uZ tZ H1 locs ht hvm hw hB hz1 hk1 hS => ?_)
          obtain ⟨hP1, hK1, hD1⟩ := hB
          rw [ht] at hP1
          obtain ⟨hP, hD⟩ := va_join (wr := [(m17, .inl (k 0, 30, .inl f17)), (m26, .inl (k 0, 8, .inl L15a3))]) (w1 := [(mo, .inr (12, [.int v0, .ref m1, .ref m2, .ref m3, .ref m4, .ref m5, .int v6, .int v7, .int v8, .int v9, .int v10, .long v11, .int v12, .int v13, .int v14, .int v15, .ref m16, .ref m17, .ref m18, .ref m19, .ref m20, .ref m21, .ref m22, .ref m23, .int v24, .ref m25, .ref m26, .ref m27, .ref m28, .ref m29, .int v30, .ref m31, .ref m32, .ref m33, .int v34, .int v35, .int v36, .ref m37, .ref m38, .ref m39, .ref m40, .long v41])), (m18, .inl (k 0, 250, .inl f18))]) hP hD [2, 3] [0, 1] rfl rfl (by decide) (by decide) hk1 hFc hP1 hD1
          clear hK1 hP1 hD1 hPc hDc hFc
          clear hk1 hz1 ht hvm
          have hP : va_P D vwCl [(m17, .inl (k 0, 30, .inl f17)), (m26, .inl (k 0, 8, .inl L15a3)), (mo, .inr (12, [.int v0, .ref m1, .ref m2, .ref m3, .ref m4, .ref m5, .int v6, .int v7, .int v8, .int v9, .int v10, .long v11, .int v12, .int v13, .int v14, .int v15, .ref m16, .ref m17, .ref m18, .ref m19, .ref m20, .ref m21, .ref m22, .ref m23, .int v24, .ref m25, .ref m26, .ref m27, .ref m28, .ref m29, .int v30, .ref m31, .ref m32, .ref m33, .int v34, .int v35, .int v36, .ref m37, .ref m38, .ref m39, .ref m40, .long v41])), (m18, .inl (k 0, 250, .inl f18))] H1 := hP
          have hD : va_D A [(m17, .inl (k 0, 30, .inl f17)), (m26, .inl (k 0, 8, .inl L15a3)), (mo, .inr (12, [.int v0, .ref m1, .ref m2, .ref m3, .ref m4, .ref m5, .int v6, .int v7, .int v8, .int v9, .int v10, .long v11, .int v12, .int v13, .int v14, .int v15, .ref m16, .ref m17, .ref m18, .ref m19, .ref m20, .ref m21, .ref m22, .ref m23, .int v24, .ref m25, .ref m26, .ref m27, .ref m28, .ref m29, .int v30, .ref m31, .ref m32, .ref m33, .int v34, .int v35, .int v36, .ref m37, .ref m38, .ref m39, .ref m40, .long v41])), (m18, .inl (k 0, 250, .inl f18))] := hD
          generalize H1 = H at hP hS ⊢
          have hw_52 : (0 ≤ r_51.toInt ∧ r_51.toInt ≤ 70) ∧ (r_51 = takesOf f18 L15l4 p1) ∧ ((f18 (5 * L15l4 + 2).toNatClampNeg).toInt ≤ r_51.toInt) := hw
          obtain ⟨hw_53, hw_54, hw_55⟩ := hw_52
          clear hw
          obtain rfl : r_21 = r_51 := hw_24.trans hw_54.symm
          refine lv_iadd hx hb dX12_lowers_107 ?_
          refine lv_topi (fun x_56 ex_56 => ?_)
          obtain rfl : x_26 = x_56 := ex_26.trans ex_56.symm
          refine va_iast hx hb hK hP hD hS 1 0 rfl rfl (z_in (by omega) (by omega)) dX12_lowers_108 (fun H locs hP hD hS => ?_)
          obtain ⟨g_57, eg_57⟩ : ∃ z : Nat → Int32, upd L15a3 x_19.toNatClampNeg x_26 = z := ⟨_, rfl⟩
          have hP : va_P D vwCl [(m17, .inl (k 0, 30, .inl f17)), (m26, .inl (k 0, 8, .inl (upd L15a3 x_19.toNatClampNeg x_26))), (mo, .inr (12, [.int v0, .ref m1, .ref m2, .ref m3, .ref m4, .ref m5, .int v6, .int v7, .int v8, .int v9, .int v10, .long v11, .int v12, .int v13, .int v14, .int v15, .ref m16, .ref m17, .ref m18, .ref m19, .ref m20, .ref m21, .ref m22, .ref m23, .int v24, .ref m25, .ref m26, .ref m27, .ref m28, .ref m29, .int v30, .ref m31, .ref m32, .ref m33, .int v34, .int v35, .int v36, .ref m37, .ref m38, .ref m39, .ref m40, .long v41])), (m18, .inl (k 0, 250, .inl f18))] H := hP
          have hD : va_D A [(m17, .inl (k 0, 30, .inl f17)), (m26, .inl (k 0, 8, .inl (upd L15a3 x_19.toNatClampNeg x_26))), (mo, .inr (12, [.int v0, .ref m1, .ref m2, .ref m3, .ref m4, .ref m5, .int v6, .int v7, .int v8, .int v9, .int v10, .long v11, .int v12, .int v13, .int v14, .int v15, .ref m16, .ref m17, .ref m18, .ref m19, .ref m20, .ref m21, .ref m22, .ref m23, .int v24, .ref m25, .ref m26, .ref m27, .ref m28, .ref m29, .int v30, .ref m31, .ref m32, .ref m33, .int v34, .int v35, .int v36, .ref m37, .ref m38, .ref m39, .ref m40, .long v41])), (m18, .inl (k 0, 250, .inl f18))] := hD
          rw [eg_57] at hP hD
          have hp_58 : PR 8 1 0 0 100000 g_57 := by rw [← eg_57]; exact PR.put L15a3h0 ⟨by omega, by omega⟩
          have hp_59 : MN g_57 := by rw [← eg_57]; exact MN.low L15a3h1 (a := x_16) (b := x_19) (xa := x_20) (xb := x_27) (by omega) (by omega) (by omega) (by omega) ex_20 ex_27 (by omega) (by omega) (by omega) (by omega)
          refine lv_aload_n hx hb dX12_lowers_109 rfl (lv_at hl 2 rfl) ?_
          refine va_get (D := D) (ci := 12) (v := .ref m26) (C := RX12) (T := TX12) (N := 42) hx hb hts iT_X12 hown hK hP 2 rfl rfl 26 (by decide) (hts _ tw_6_79) (fun _ h9 => h9) rfl dX12_lowers_110 ?_
          refine lv_iload hx hb dX12_lowers_113 (lv_at hl 0 rfl) ?_
          refine va_iald hx hb hK hP 1 0 rfl rfl (z_in (by omega) (by omega)) dX12_lowers_115 ?_
          refine lv_topi (fun x_60 ex_60 => ?_)
          obtain rfl : x_26 = x_60 := ((ex_60.trans (by rw [← eg_57]; exact pk_us))).symm
          refine lv_aload_n hx hb dX12_lowers_116 rfl (lv_at hl 2 rfl) ?_
          refine lv_iload hx hb dX12_lowers_117 (lv_at hl 6 rfl) ?_
          refine lv_iload_n hx hb dX12_lowers_119 rfl (lv_at hl 4 rfl) ?_
          have hPc := hP.sub (ws' := [(mo, .inr (12, [.int v0, .ref m1, .ref m2, .ref m3, .ref m4, .ref m5, .int v6, .int v7, .int v8, .int v9, .int v10, .long v11, .int v12, .int v13, .int v14, .int v15, .ref m16, .ref m17, .ref m18, .ref m19, .ref m20, .ref m21, .ref m22, .ref m23, .int v24, .ref m25, .ref m26, .ref m27, .ref m28, .ref m29, .int v30, .ref m31, .ref m32, .ref m33, .int v34, .int v35, .int v36, .ref m37, .ref m38, .ref m39, .ref m40, .long v41])), (m18, .inl (k 0, 250, .inl f18))]) [2, 3] rfl
          have hDc := hD.sub (ws' := [(mo, .inr (12, [.int v0, .ref m1, .ref m2, .ref m3, .ref m4, .ref m5, .int v6, .int v7, .int v8, .int v9, .int v10, .long v11, .int v12, .int v13, .int v14, .int v15, .ref m16, .ref m17, .ref m18, .ref m19, .ref m20, .ref m21, .ref m22, .ref m23, .int v24, .ref m25, .ref m26, .ref m27, .ref m28, .ref m29, .int v30, .ref m31, .ref m32, .ref m33, .int v34, .int v35, .int v36, .ref m37, .ref m38, .ref m39, .ref m40, .long v41])), (m18, .inl (k 0, 250, .inl f18))]) [2, 3] (by decide) rfl
          have hFc := va_free (wc := [(mo, .inr (12, [.int v0, .ref m1, .ref m2, .ref m3, .ref m4, .ref m5, .int v6, .int v7, .int v8, .int v9, .int v10, .long v11, .int v12, .int v13, .int v14, .int v15, .ref m16, .ref m17, .ref m18, .ref m19, .ref m20, .ref m21, .ref m22, .ref m23, .int v24, .ref m25, .ref m26, .ref m27, .ref m28, .ref m29, .int v30, .ref m31, .ref m32, .ref m33, .int v34, .int v35, .int v36, .ref m37, .ref m38, .ref m39, .ref m40, .long v41])), (m18, .inl (k 0, 250, .inl f18))]) hD hS hA [2, 3] rfl
          refine va_calli (va_runV (C := RX12) (As := [.int L15l4, .int p1]) (rest := [.int x_26]) ⟨hx, hb, hml, hown, hts⟩ (c_X12_takes_ l D k mo L15l4 p1 v0 m1 m2 m3 m4 m5 v6 v7 v8 v9 v10 v11 v12 v13 v14 v15 m16 m17 m18 m19 m20 m21 m22 m23 v24 m25 m26 m27 m28 m29 v30 m31 m32 m33 v34 v35 v36 m37 m38 m39 m40 v41 f18 H.size (show 0 ≤ L15l4.toInt ∧ L15l4.toInt ≤ 9 from by omega) (show 0 ≤ v6.toInt ∧ v6.toInt ≤ 1000 from by omega) (show 0 ≤ v24.toInt ∧ v24.toInt ≤ 1023 from by omega) hp_f18_0 hp_f18_1 hp_f18_2 hp_f18_3) (cwV 2 hts (gV tw_7_157 tw_7_159 tw_p_68 tw_1_13 tw_7_160) rfl rfl rfl hdV_X12_takes_ ⟨Nat.le_of_ble_eq_true rfl, Nat.le_of_ble_eq_true rfl⟩) (cz_V hK hPc hDc hN (ci := 12) (q0 := 0) rfl rfl [.int L15l4, .int p1]) rfl rfl hl.1 rfl (lv_room (Nat.le_of_ble_eq_true rfl)) dX12_lowers_120 ⟨Nat.le_of_ble_eq_true rfl, Nat.le_of_ble_eq_true rfl⟩) hS (fun q _ h => hFc q h) hFc (fun r_61 uZ tZ H1 locs ht hvm hw hB hz1 hk1 hS => ?_)
          obtain ⟨hP1, hK1, hD1⟩ := hB
          rw [ht] at hP1
          obtain ⟨hP, hD⟩ := va_join (wr := [(m17, .inl (k 0, 30, .inl f17)), (m26, .inl (k 0, 8, .inl g_57))]) (w1 := [(mo, .inr (12, [.int v0, .ref m1, .ref m2, .ref m3, .ref m4, .ref m5, .int v6, .int v7, .int v8, .int v9, .int v10, .long v11, .int v12, .int v13, .int v14, .int v15, .ref m16, .ref m17, .ref m18, .ref m19, .ref m20, .ref m21, .ref m22, .ref m23, .int v24, .ref m25, .ref m26, .ref m27, .ref m28, .ref m29, .int v30, .ref m31, .ref m32, .ref m33, .int v34, .int v35, .int v36, .ref m37, .ref m38, .ref m39, .ref m40, .long v41])), (m18, .inl (k 0, 250, .inl f18))]) hP hD [2, 3] [0, 1] rfl rfl (by decide) (by decide) hk1 hFc hP1 hD1
          clear hK1 hP1 hD1 hPc hDc hFc
          clear hk1 hz1 ht hvm
          have hP : va_P D vwCl [(m17, .inl (k 0, 30, .inl f17)), (m26, .inl (k 0, 8, .inl g_57)), (mo, .inr (12, [.int v0, .ref m1, .ref m2, .ref m3, .ref m4, .ref m5, .int v6, .int v7, .int v8, .int v9, .int v10, .long v11, .int v12, .int v13, .int v14, .int v15, .ref m16, .ref m17, .ref m18, .ref m19, .ref m20, .ref m21, .ref m22, .ref m23, .int v24, .ref m25, .ref m26, .ref m27, .ref m28, .ref m29, .int v30, .ref m31, .ref m32, .ref m33, .int v34, .int v35, .int v36, .ref m37, .ref m38, .ref m39, .ref m40, .long v41])), (m18, .inl (k 0, 250, .inl f18))] H1 := hP
          have hD : va_D A [(m17, .inl (k 0, 30, .inl f17)), (m26, .inl (k 0, 8, .inl g_57)), (mo, .inr (12, [.int v0, .ref m1, .ref m2, .ref m3, .ref m4, .ref m5, .int v6, .int v7, .int v8, .int v9, .int v10, .long v11, .int v12, .int v13, .int v14, .int v15, .ref m16, .ref m17, .ref m18, .ref m19, .ref m20, .ref m21, .ref m22, .ref m23, .int v24, .ref m25, .ref m26, .ref m27, .ref m28, .ref m29, .int v30, .ref m31, .ref m32, .ref m33, .int v34, .int v35, .int v36, .ref m37, .ref m38, .ref m39, .ref m40, .long v41])), (m18, .inl (k 0, 250, .inl f18))] := hD
          generalize H1 = H at hP hS ⊢
          have hw_62 : (0 ≤ r_61.toInt ∧ r_61.toInt ≤ 70) ∧ (r_61 = takesOf f18 L15l4 p1) ∧ ((f18 (5 * L15l4 + 2).toNatClampNeg).toInt ≤ r_61.toInt) := hw
          obtain ⟨hw_63, hw_64, hw_65⟩ := hw_62
          clear hw
          obtain rfl : r_21 = r_61 := hw_24.trans hw_64.symm
          refine lv_iadd hx hb dX12_lowers_123 ?_
          refine lv_topi (fun x_66 ex_66 => ?_)
          have zx_66 : x_66.toInt = x_26.toInt + r_21.toInt := by rw [ex_66]; exact z_add rfl rfl (by omega) (by omega)
          refine lv_aload_n hx hb dX12_lowers_124 rfl (lv_at hl 2 rfl) ?_
          refine va_get (D := D) (ci := 12) (v := .ref m26) (C := RX12) (T := TX12) (N := 42) hx hb hts iT_X12 hown hK hP 2 rfl rfl 26 (by decide) (hts _ tw_6_79) (fun _ h9 => h9) rfl dX12_lowers_125 ?_
          refine lv_iload hx hb dX12_lowers_128 (lv_at hl 1 rfl) ?_
          refine va_iald hx hb hK hP 1 0 rfl rfl (z_in (by omega) (by omega)) dX12_lowers_130 ?_
          refine lv_topi (fun x_67 ex_67 => ?_)
          have zx_67r0 : 0 ≤ x_67.toInt ∧ x_67.toInt ≤ 100000 := by rw [ex_67]; exact PR.ld hp_58 (by omega) (by omega) (by omega)
          have zmnx_67 : x_67.toInt = 100000 ∨ x_67.toInt ≤ 619 := by rw [ex_67]; exact MN.ld hp_59 (by omega) (by omega)
          refine lv_icmp_ge (tgt := 156) hx hb dX12_lowers_131 (by decide) (fun h_68 => ?_) (fun h_68 => ?_)
          · skip
            have zh_68 : x_67.toInt ≤ x_66.toInt := z_le h_68
            obtain ⟨x_69, ex_69⟩ : ∃ y : Int32, y = L15l4 + 1 := ⟨_, rfl⟩
            have zx_69 : x_69.toInt = L15l4.toInt + 1 := by rw [ex_69]; exact z_add rfl rfl (by omega) (by omega)
            refine lv_iinc (v := x_69) (lv' := [(4, .int x_69), (6, .int x_19), (5, .int x_16), (0, .ref mo), (1, .int p0), (2, .int p1), (3, .int L2l3)]) hx hb dX12_lowers_156 hl (k := 6) rfl (by rw [ex_69]; rfl) (by decide) rfl (fun ls hl => ?_)
            refine lv_goto (tgt := 15) hx hb dX12_lowers_159 (by decide) ?_
            exact ih_5 _ _ _ _ (by omega) ⟨x_69, g_57, rfl, (show 0 ≤ x_69.toInt ∧ x_69.toInt ≤ 10 from by omega), hp_58, hp_59, hP.sub (ws' := [(mo, .inr (12, [.int v0, .ref m1, .ref m2, .ref m3, .ref m4, .ref m5, .int v6, .int v7, .int v8, .int v9, .int v10, .long v11, .int v12, .int v13, .int v14, .int v15, .ref m16, .ref m17, .ref m18, .ref m19, .ref m20, .ref m21, .ref m22, .ref m23, .int v24, .ref m25, .ref m26, .ref m27, .ref m28, .ref m29, .int v30, .ref m31, .ref m32, .ref m33, .int v34, .int v35, .int v36, .ref m37, .ref m38, .ref m39, .ref m40, .long v41])), (m17, .inl (k 0, 30, .inl f17)), (m18, .inl (k 0, 250, .inl f18)), (m26, .inl (k 0, 8, .inl g_57))]) [2, 0, 3, 1] rfl, hD.sub (ws' := [(mo, .inr (12, [.int v0, .ref m1, .ref m2, .ref m3, .ref m4, .ref m5, .int v6, .int v7, .int v8, .int v9, .int v10, .long v11, .int v12, .int v13, .int v14, .int v15, .ref m16, .ref m17, .ref m18, .ref m19, .ref m20, .ref m21, .ref m22, .ref m23, .int v24, .ref m25, .ref m26, .ref m27, .ref m28, .ref m29, .int v30, .ref m31, .ref m32, .ref m33, .int v34, .int v35, .int v36, .ref m37, .ref m38, .ref m39, .ref m40, .long v41])), (m17, .inl (k 0, 30, .inl f17)), (m18, .inl (k 0, 250, .inl f18)), (m26, .inl (k 0, 8, .inl g_57))]) [2, 0, 3, 1] (by decide) rfl, hS, lv_sub hl [3, 4, 5, 6, 0] rfl⟩
          · skip
            have zh_68 : x_66.toInt < x_67.toInt := z_nle h_68
            refine lv_aload_n hx hb dX12_lowers_134 rfl (lv_at hl 2 rfl) ?_
            refine va_get (D := D) (ci := 12) (v := .ref m26) (C := RX12) (T := TX12) (N := 42) hx hb hts iT_X12 hown hK hP 2 rfl rfl 26 (by decide) (hts _ tw_6_79) (fun _ h9 => h9) rfl dX12_lowers_135 ?_
            refine lv_iload hx hb dX12_lowers_138 (lv_at hl 1 rfl) ?_
            refine lv_aload_n hx hb dX12_lowers_140 rfl (lv_at hl 2 rfl) ?_
            refine va_get (D := D) (ci := 12) (v := .ref m26) (C := RX12) (T := TX12) (N := 42) hx hb hts iT_X12 hown hK hP 2 rfl rfl 26 (by decide) (hts _ tw_6_79) (fun _ h9 => h9) rfl dX12_lowers_141 ?_
            refine lv_iload hx hb dX12_lowers_144 (lv_at hl 0 rfl) ?_
            refine va_iald hx hb hK hP 1 0 rfl rfl (z_in (by omega) (by omega)) dX12_lowers_146 ?_
            refine lv_topi (fun x_70 ex_70 => ?_)
            obtain rfl : x_26 = x_70 := ((ex_70.trans (by rw [← eg_57]; exact pk_us))).symm
            refine lv_aload_n hx hb dX12_lowers_147 rfl (lv_at hl 2 rfl) ?_
            refine lv_iload hx hb dX12_lowers_148 (lv_at hl 6 rfl) ?_
            refine lv_iload_n hx hb dX12_lowers_150 rfl (lv_at hl 4 rfl) ?_
            have hPc := hP.sub (ws' := [(mo, .inr (12, [.int v0, .ref m1, .ref m2, .ref m3, .ref m4, .ref m5, .int v6, .int v7, .int v8, .int v9, .int v10, .long v11, .int v12, .int v13, .int v14, .int v15, .ref m16, .ref m17, .ref m18, .ref m19, .ref m20, .ref m21, .ref m22, .ref m23, .int v24, .ref m25, .ref m26, .ref m27, .ref m28, .ref m29, .int v30, .ref m31, .ref m32, .ref m33, .int v34, .int v35, .int v36, .ref m37, .ref m38, .ref m39, .ref m40, .long v41])), (m18, .inl (k 0, 250, .inl f18))]) [2, 3] rfl
            have hDc := hD.sub (ws' := [(mo, .inr (12, [.int v0, .ref m1, .ref m2, .ref m3, .ref m4, .ref m5, .int v6, .int v7, .int v8, .int v9, .int v10, .long v11, .int v12, .int v13, .int v14, .int v15, .ref m16, .ref m17, .ref m18, .ref m19, .ref m20, .ref m21, .ref m22, .ref m23, .int v24, .ref m25, .ref m26, .ref m27, .ref m28, .ref m29, .int v30, .ref m31, .ref m32, .ref m33, .int v34, .int v35, .int v36, .ref m37, .ref m38, .ref m39, .ref m40, .long v41])), (m18, .inl (k 0, 250, .inl f18))]) [2, 3] (by decide) rfl
            have hFc := va_free (wc := [(mo, .inr (12, [.int v0, .ref m1, .ref m2, .ref m3, .ref m4, .ref m5, .int v6, .int v7, .int v8, .int v9, .int v10, .long v11, .int v12, .int v13, .int v14, .int v15, .ref m16, .ref m17, .ref m18, .ref m19, .ref m20, .ref m21, .ref m22, .ref m23, .int v24, .ref m25, .ref m26, .ref m27, .ref m28, .ref m29, .int v30, .ref m31, .ref m32, .ref m33, .int v34, .int v35, .int v36, .ref m37, .ref m38, .ref m39, .ref m40, .long v41])), (m18, .inl (k 0, 250, .inl f18))]) hD hS hA [2, 3] rfl
            refine va_calli (va_runV (C := RX12) (As := [.int L15l4, .int p1]) (rest := [.int x_26, .int x_16, .ref m26]) ⟨hx, hb, hml, hown, hts⟩ (c_X12_takes_ l D k mo L15l4 p1 v0 m1 m2 m3 m4 m5 v6 v7 v8 v9 v10 v11 v12 v13 v14 v15 m16 m17 m18 m19 m20 m21 m22 m23 v24 m25 m26 m27 m28 m29 v30 m31 m32 m33 v34 v35 v36 m37 m38 m39 m40 v41 f18 H.size (show 0 ≤ L15l4.toInt ∧ L15l4.toInt ≤ 9 from by omega) (show 0 ≤ v6.toInt ∧ v6.toInt ≤ 1000 from by omega) (show 0 ≤ v24.toInt ∧ v24.toInt ≤ 1023 from by omega) hp_f18_0 hp_f18_1 hp_f18_2 hp_f18_3) (cwV 2 hts (gV tw_7_157 tw_7_159 tw_p_68 tw_1_13 tw_7_160) rfl rfl rfl hdV_X12_takes_ ⟨Nat.le_of_ble_eq_true rfl, Nat.le_of_ble_eq_true rfl⟩) (cz_V hK hPc hDc hN (ci := 12) (q0 := 0) rfl rfl [.int L15l4, .int p1]) rfl rfl hl.1 rfl (lv_room (Nat.le_of_ble_eq_true rfl)) dX12_lowers_151 ⟨Nat.le_of_ble_eq_true rfl, Nat.le_of_ble_eq_true rfl⟩) hS (fun q _ h => hFc q h) hFc (fun r_71 uZ tZ H1 locs ht hvm hw hB hz1 hk1 hS => ?_)
            obtain ⟨hP1, hK1, hD1⟩ := hB
            rw [ht] at hP1
            obtain ⟨hP, hD⟩ := va_join (wr := [(m17, .inl (k 0, 30, .inl f17)), (m26, .inl (k 0, 8, .inl g_57))]) (w1 := [(mo, .inr (12, [.int v0, .ref m1, .ref m2, .ref m3, .ref m4, .ref m5, .int v6, .int v7, .int v8, .int v9, .int v10, .long v11, .int v12, .int v13, .int v14, .int v15, .ref m16, .ref m17, .ref m18, .ref m19, .ref m20, .ref m21, .ref m22, .ref m23, .int v24, .ref m25, .ref m26, .ref m27, .ref m28, .ref m29, .int v30, .ref m31, .ref m32, .ref m33, .int v34, .int v35, .int v36, .ref m37, .ref m38, .ref m39, .ref m40, .long v41])), (m18, .inl (k 0, 250, .inl f18))]) hP hD [2, 3] [0, 1] rfl rfl (by decide) (by decide) hk1 hFc hP1 hD1
            clear hK1 hP1 hD1 hPc hDc hFc
            clear hk1 hz1 ht hvm
            have hP : va_P D vwCl [(m17, .inl (k 0, 30, .inl f17)), (m26, .inl (k 0, 8, .inl g_57)), (mo, .inr (12, [.int v0, .ref m1, .ref m2, .ref m3, .ref m4, .ref m5, .int v6, .int v7, .int v8, .int v9, .int v10, .long v11, .int v12, .int v13, .int v14, .int v15, .ref m16, .ref m17, .ref m18, .ref m19, .ref m20, .ref m21, .ref m22, .ref m23, .int v24, .ref m25, .ref m26, .ref m27, .ref m28, .ref m29, .int v30, .ref m31, .ref m32, .ref m33, .int v34, .int v35, .int v36, .ref m37, .ref m38, .ref m39, .ref m40, .long v41])), (m18, .inl (k 0, 250, .inl f18))] H1 := hP
            have hD : va_D A [(m17, .inl (k 0, 30, .inl f17)), (m26, .inl (k 0, 8, .inl g_57)), (mo, .inr (12, [.int v0, .ref m1, .ref m2, .ref m3, .ref m4, .ref m5, .int v6, .int v7, .int v8, .int v9, .int v10, .long v11, .int v12, .int v13, .int v14, .int v15, .ref m16, .ref m17, .ref m18, .ref m19, .ref m20, .ref m21, .ref m22, .ref m23, .int v24, .ref m25, .ref m26, .ref m27, .ref m28, .ref m29, .int v30, .ref m31, .ref m32, .ref m33, .int v34, .int v35, .int v36, .ref m37, .ref m38, .ref m39, .ref m40, .long v41])), (m18, .inl (k 0, 250, .inl f18))] := hD
            generalize H1 = H at hP hS ⊢
            have hw_72 : (0 ≤ r_71.toInt ∧ r_71.toInt ≤ 70) ∧ (r_71 = takesOf f18 L15l4 p1) ∧ ((f18 (5 * L15l4 + 2).toNatClampNeg).toInt ≤ r_71.toInt) := hw
            obtain ⟨hw_73, hw_74, hw_75⟩ := hw_72
            clear hw
            obtain rfl : r_21 = r_71 := hw_24.trans hw_74.symm
            refine lv_iadd hx hb dX12_lowers_154 ?_
            refine lv_topi (fun x_76 ex_76 => ?_)
            obtain rfl : x_66 = x_76 := ex_66.trans ex_76.symm
            refine va_iast hx hb hK hP hD hS 1 0 rfl rfl (z_in (by omega) (by omega)) dX12_lowers_155 (fun H locs hP hD hS => ?_)
            obtain ⟨g_77, eg_77⟩ : ∃ z : Nat → Int32, upd g_57 x_16.toNatClampNeg x_66 = z := ⟨_, rfl⟩
            have hP : va_P D vwCl [(m17, .inl (k 0, 30, .inl f17)), (m26, .inl (k 0, 8, .inl (upd g_57 x_16.toNatClampNeg x_66))), (mo, .inr (12, [.int v0, .ref m1, .ref m2, .ref m3, .ref m4, .ref m5, .int v6, .int v7, .int v8, .int v9, .int v10, .long v11, .int v12, .int v13, .int v14, .int v15, .ref m16, .ref m17, .ref m18, .ref m19, .ref m20, .ref m21, .ref m22, .ref m23, .int v24, .ref m25, .ref m26, .ref m27, .ref m28, .ref m29, .int v30, .ref m31, .ref m32, .ref m33, .int v34, .int v35, .int v36, .ref m37, .ref m38, .ref m39, .ref m40, .long v41])), (m18, .inl (k 0, 250, .inl f18))] H := hP
            have hD : va_D A [(m17, .inl (k 0, 30, .inl f17)), (m26, .inl (k 0, 8, .inl (upd g_57 x_16.toNatClampNeg x_66))), (mo, .inr (12, [.int v0, .ref m1, .ref m2, .ref m3, .ref m4, .ref m5, .int v6, .int v7, .int v8, .int v9, .int v10, .long v11, .int v12, .int v13, .int v14, .int v15, .ref m16, .ref m17, .ref m18, .ref m19, .ref m20, .ref m21, .ref m22, .ref m23, .int v24, .ref m25, .ref m26, .ref m27, .ref m28, .ref m29, .int v30, .ref m31, .ref m32, .ref m33, .int v34, .int v35, .int v36, .ref m37, .ref m38, .ref m39, .ref m40, .long v41])), (m18, .inl (k 0, 250, .inl f18))] := hD
            rw [eg_77] at hP hD
            have hp_78 : PR 8 1 0 0 100000 g_77 := by rw [← eg_77]; exact PR.put hp_58 ⟨by omega, by omega⟩
            have hp_79 : MN g_77 := by rw [← eg_77]; exact MN.low hp_59 (a := x_19) (b := x_16) (xa := x_26) (xb := x_67) (by omega) (by omega) (by omega) (by omega) (show x_26 = g_57 x_19.toNatClampNeg from by rw [← eg_57]; exact pk_us.symm) ex_67 (by omega) (by omega) (by omega) (by omega)
            obtain ⟨x_80, ex_80⟩ : ∃ y : Int32, y = L15l4 + 1 := ⟨_, rfl⟩
            have zx_80 : x_80.toInt = L15l4.toInt + 1 := by rw [ex_80]; exact z_add rfl rfl (by omega) (by omega)
            refine lv_iinc (v := x_80) (lv' := [(4, .int x_80), (6, .int x_19), (5, .int x_16), (0, .ref mo), (1, .int p0), (2, .int p1), (3, .int L2l3)]) hx hb dX12_lowers_156 hl (k := 6) rfl (by rw [ex_80]; rfl) (by decide) rfl (fun ls hl => ?_)
            refine lv_goto (tgt := 15) hx hb dX12_lowers_159 (by decide) ?_
            exact ih_5 _ _ _ _ (by omega) ⟨x_80, g_77, rfl, (show 0 ≤ x_80.toInt ∧ x_80.toInt ≤ 10 from by omega), hp_78, hp_79, hP.sub (ws' := [(mo, .inr (12, [.int v0, .ref m1, .ref m2, .ref m3, .ref m4, .ref m5, .int v6, .int v7, .int v8, .int v9, .int v10, .long v11, .int v12, .int v13, .int v14, .int v15, .ref m16, .ref m17, .ref m18, .ref m19, .ref m20, .ref m21, .ref m22, .ref m23, .int v24, .ref m25, .ref m26, .ref m27, .ref m28, .ref m29, .int v30, .ref m31, .ref m32, .ref m33, .int v34, .int v35, .int v36, .ref m37, .ref m38, .ref m39, .ref m40, .long v41])), (m17, .inl (k 0, 30, .inl f17)), (m18, .inl (k 0, 250, .inl f18)), (m26, .inl (k 0, 8, .inl g_77))]) [2, 0, 3, 1] rfl, hD.sub (ws' := [(mo, .inr (12, [.int v0, .ref m1, .ref m2, .ref m3, .ref m4, .ref m5, .int v6, .int v7, .int v8, .int v9, .int v10, .long v11, .int v12, .int v13, .int v14, .int v15, .ref m16, .ref m17, .ref m18, .ref m19, .ref m20, .ref m21, .ref m22, .ref m23, .int v24, .ref m25, .ref m26, .ref m27, .ref m28, .ref m29, .int v30, .ref m31, .ref m32, .ref m33, .int v34, .int v35, .int v36, .ref m37, .ref m38, .ref m39, .ref m40, .long v41])), (m17, .inl (k 0, 30, .inl f17)), (m18, .inl (k 0, 250, .inl f18)), (m26, .inl (k 0, 8, .inl g_77))]) [2, 0, 3, 1] (by decide) rfl, hS, lv_sub hl [3, 4, 5, 6, 0] rfl⟩
      · skip
        have zh_14 : r_10.toInt = 0 := z_eq h_14
        refine lv_goto (tgt := 156) hx hb dX12_lowers_35 (by decide) ?_
        obtain ⟨x_81, ex_81⟩ : ∃ y : Int32, y = L15l4 + 1 := ⟨_, rfl⟩
        have zx_81 : x_81.toInt = L15l4.toInt + 1 := by rw [ex_81]; exact z_add rfl rfl (by omega) (by omega)
        refine lv_iinc (v := x_81) (lv' := [(4, .int x_81), (0, .ref mo), (1, .int p0), (2, .int p1), (3, .int L2l3)]) hx hb dX12_lowers_156 hl (k := 4) rfl (by rw [ex_81]; rfl) (by decide) rfl (fun ls hl => ?_)
        refine lv_goto (tgt := 15) hx hb dX12_lowers_159 (by decide) ?_
        exact ih_5 _ _ _ _ (by omega) ⟨x_81, L15a3, rfl, (show 0 ≤ x_81.toInt ∧ x_81.toInt ≤ 10 from by omega), L15a3h0, L15a3h1, hP.sub (ws' := [(mo, .inr (12, [.int v0, .ref m1, .ref m2, .ref m3, .ref m4, .ref m5, .int v6, .int v7, .int v8, .int v9, .int v10, .long v11, .int v12, .int v13, .int v14, .int v15, .ref m16, .ref m17, .ref m18, .ref m19, .ref m20, .ref m21, .ref m22, .ref m23, .int v24, .ref m25, .ref m26, .ref m27, .ref m28, .ref m29, .int v30, .ref m31, .ref m32, .ref m33, .int v34, .int v35, .int v36, .ref m37, .ref m38, .ref m39, .ref m40, .long v41])), (m17, .inl (k 0, 30, .inl f17)), (m18, .inl (k 0, 250, .inl f18)), (m26, .inl (k 0, 8, .inl L15a3))]) [0, 1, 2, 3] rfl, hD.sub (ws' := [(mo, .inr (12, [.int v0, .ref m1, .ref m2, .ref m3, .ref m4, .ref m5, .int v6, .int v7, .int v8, .int v9, .int v10, .long v11, .int v12, .int v13, .int v14, .int v15, .ref m16, .ref m17, .ref m18, .ref m19, .ref m20, .ref m21, .ref m22, .ref m23, .int v24, .ref m25, .ref m26, .ref m27, .ref m28, .ref m29, .int v30, .ref m31, .ref m32, .ref m33, .int v34, .int v35, .int v36, .ref m37, .ref m38, .ref m39, .ref m40, .long v41])), (m17, .inl (k 0, 30, .inl f17)), (m18, .inl (k 0, 250, .inl f18)), (m26, .inl (k 0, 8, .inl L15a3))]) [0, 1, 2, 3] (by decide) rfl, hS, lv_sub hl [1, 2, 3, 4, 0] rfl⟩
set_option maxHeartbeats 4000000 in
set_option maxRecDepth 100000 in
theorem c_X12_lowers_1 (l : Launch) (D : va_G) (k : Nat → ClassId) (mo : Nat) (p0 : Int32) (p1 : Int32) (v0 : Int32) (m1 : Nat) (m2 : Nat) (m3 : Nat) (m4 : Nat) (m5 : Nat) (v6 : Int32) (v7 : Int32) (v8 : Int32) (v9 : Int32) (v10 : Int32) (v11 : Int64) (v12 : Int32) (v13 : Int32) (v14 : Int32) (v15 : Int32) (m16 : Nat) (m17 : Nat) (m18 : Nat) (m19 : Nat) (m20 : Nat) (m21 : Nat) (m22 : Nat) (m23 : Nat) (v24 : Int32) (m25 : Nat) (m26 : Nat) (m27 : Nat) (m28 : Nat) (m29 : Nat) (v30 : Int32) (m31 : Nat) (m32 : Nat) (m33 : Nat) (v34 : Int32) (v35 : Int32) (v36 : Int32) (m37 : Nat) (m38 : Nat) (m39 : Nat) (m40 : Nat) (v41 : Int64) (f17 : Nat → Int32) (f18 : Nat → Int32) (f26 : Nat → Int32) (sz : Nat) (h_v6 : 0 ≤ v6.toInt ∧ v6.toInt ≤ 1000) (h_v24 : 0 ≤ v24.toInt ∧ v24.toInt ≤ 1023) (hp_f17_0 : PR 30 6 0 0 8 f17) (hp_f17_1 : PR 30 6 1 0 10 f17) (hp_f17_2 : PR 30 6 2 0 4 f17) (hp_f17_3 : PR 30 6 3 0 6 f17) (hp_f17_4 : PR 30 6 4 0 2 f17) (hp_f17_5 : PR 30 6 5 0 40 f17) (hp_f18_0 : PR 250 5 0 0 7 f18) (hp_f18_1 : PR 250 5 1 0 7 f18) (hp_f18_2 : PR 250 5 2 0 60 f18) (hp_f18_3 : PR 250 5 3 0 10 f18) (hp_f26_0 : PR 8 1 0 0 100000 f26) : Met l yX12_lowers (ww yX12_lowers cX12_lowers 7 none) ({ frames := 2, cells := 0, slots := 0, locals := 43 }) (Pre0 D k [(mo, .inr (12, [.int v0, .ref m1, .ref m2, .ref m3, .ref m4, .ref m5, .int v6, .int v7, .int v8, .int v9, .int v10, .long v11, .int v12, .int v13, .int v14, .int v15, .ref m16, .ref m17, .ref m18, .ref m19, .ref m20, .ref m21, .ref m22, .ref m23, .int v24, .ref m25, .ref m26, .ref m27, .ref m28, .ref m29, .int v30, .ref m31, .ref m32, .ref m33, .int v34, .int v35, .int v36, .ref m37, .ref m38, .ref m39, .ref m40, .long v41])), (m17, .inl (k 0, 30, .inl f17)), (m18, .inl (k 0, 250, .inl f18)), (m26, .inl (k 0, 8, .inl f26))] sz [.ref mo, .int p0, .int p1]) (va_Qv (fun (f26z : (Nat → Int32)) => (PR 8 1 0 0 100000 f26z)) (fun (f26z : (Nat → Int32)) tZ => Bw D k (va_A [(mo, .inr (12, [.int v0, .ref m1, .ref m2, .ref m3, .ref m4, .ref m5, .int v6, .int v7, .int v8, .int v9, .int v10, .long v11, .int v12, .int v13, .int v14, .int v15, .ref m16, .ref m17, .ref m18, .ref m19, .ref m20, .ref m21, .ref m22, .ref m23, .int v24, .ref m25, .ref m26, .ref m27, .ref m28, .ref m29, .int v30, .ref m31, .ref m32, .ref m33, .int v34, .int v35, .int v36, .ref m37, .ref m38, .ref m39, .ref m40, .long v41])), (m17, .inl (k 0, 30, .inl f17)), (m18, .inl (k 0, 250, .inl f18)), (m26, .inl (k 0, 8, .inl f26))] sz) [(mo, .inr (12, [.int v0, .ref m1, .ref m2, .ref m3, .ref m4, .ref m5, .int v6, .int v7, .int v8, .int v9, .int v10, .long v11, .int v12, .int v13, .int v14, .int v15, .ref m16, .ref m17, .ref m18, .ref m19, .ref m20, .ref m21, .ref m22, .ref m23, .int v24, .ref m25, .ref m26, .ref m27, .ref m28, .ref m29, .int v30, .ref m31, .ref m32, .ref m33, .int v34, .int v35, .int v36, .ref m37, .ref m38, .ref m39, .ref m40, .long v41])), (m17, .inl (k 0, 30, .inl f17)), (m18, .inl (k 0, 250, .inl f18)), (m26, .inl (k 0, 8, .inl f26z))] tZ) (va_A [(mo, .inr (12, [.int v0, .ref m1, .ref m2, .ref m3, .ref m4, .ref m5, .int v6, .int v7, .int v8, .int v9, .int v10, .long v11, .int v12, .int v13, .int v14, .int v15, .ref m16, .ref m17, .ref m18, .ref m19, .ref m20, .ref m21, .ref m22, .ref m23, .int v24, .ref m25, .ref m26, .ref m27, .ref m28, .ref m29, .int v30, .ref m31, .ref m32, .ref m33, .int v34, .int v35, .int v36, .ref m37, .ref m38, .ref m39, .ref m40, .long v41])), (m17, .inl (k 0, 30, .inl f17)), (m18, .inl (k 0, 250, .inl f18)), (m26, .inl (k 0, 8, .inl f26))] sz)) 0 0 (va_A [(mo, .inr (12, [.int v0, .ref m1, .ref m2, .ref m3, .ref m4, .ref m5, .int v6, .int v7, .int v8, .int v9, .int v10, .long v11, .int v12, .int v13, .int v14, .int v15, .ref m16, .ref m17, .ref m18, .ref m19, .ref m20, .ref m21, .ref m22, .ref m23, .int v24, .ref m25, .ref m26, .ref m27, .ref m28, .ref m29, .int v30, .ref m31, .ref m32, .ref m33, .int v34, .int v35, .int v36, .ref m37, .ref m38, .ref m39, .ref m40, .long v41])), (m17, .inl (k 0, 30, .inl f17)), (m18, .inl (k 0, 250, .inl f18)), (m26, .inl (k 0, 8, .inl f26))] sz) := by
  refine Met.ofW (cc := cX12_lowers) (maxL := 7) (ret := none) (by decide +kernel) rfl ?_
  intro p e s m args below meth c s₁ B hml hv
  obtain ⟨rfl, hsz, hP, hK, hD0, hN⟩ := hv
  have hx := B.exec
  have hb := B.bytes
  have hr := B.returns
  have hts : ∀ w ∈ TT, w.before _ s = true := fun w h => atoms_spec (ws := ww yX12_lowers cX12_lowers 7 none) B.pre w (List.mem_cons_of_mem _ h)
  have hown : s.vm.findClass RX12 = some m.cls := findClass_of_methodNamed B.named
  have hlocks := B.notSynchronized
  subst hsz
  have hD := hD0.self (sz := s.heap.size)
  generalize hAe : va_A [(mo, .inr (12, [.int v0, .ref m1, .ref m2, .ref m3, .ref m4, .ref m5, .int v6, .int v7, .int v8, .int v9, .int v10, .long v11, .int v12, .int v13, .int v14, .int v15, .ref m16, .ref m17, .ref m18, .ref m19, .ref m20, .ref m21, .ref m22, .ref m23, .int v24, .ref m25, .ref m26, .ref m27, .ref m28, .ref m29, .int v30, .ref m31, .ref m32, .ref m33, .int v34, .int v35, .int v36, .ref m37, .ref m38, .ref m39, .ref m40, .long v41])), (m17, .inl (k 0, 30, .inl f17)), (m18, .inl (k 0, 250, .inl f18)), (m26, .inl (k 0, 8, .inl f26))] s.heap.size = A at hD ⊢
  have hA : ∀ q : Nat, s.heap.size ≤ q → A q := fun q h => by rw [← hAe]; exact Or.inr h
  have hS : va_S A s.heap s.heap [] := va_S.rf
  have hl := lv_entry ([.ref mo, .int p0, .int p1]) (n := 7) (Nat.le_of_ble_eq_true rfl)
  rw [lg_entry_eq]
  generalize (lg_sl ([.ref mo, .int p0, .int p1]) ++ List.replicate (7 - (lg_sl ([.ref mo, .int p0, .int p1])).length) Slot.unset).toArray = ls at hl ⊢
  have hl : lv_has ls 7 [(0, .ref mo), (1, .int p0), (2, .int p1)] := hl
  refine lv_iconst (v := 0) hx hb dX12_lowers_0 (by decide) ?_
  refine lv_istore_n (lv' := [(3, .int 0), (0, .ref mo), (1, .int p0), (2, .int p1)]) hx hb dX12_lowers_1 rfl hl (by decide) rfl (fun ls hl => ?_)
  refine loop_r (Wg := fun H locs ls => W p l e _ s m _ below meth c H locs _ _ _ (F0 m 2 ls [])) (fun n9 H locs ls => ∃ (L2l3 : Int32) (L2a3 : Nat → Int32), n9 = (8 - L2l3.toInt).toNat ∧ (0 ≤ L2l3.toInt ∧ L2l3.toInt ≤ 8) ∧ (PR 8 1 0 0 100000 L2a3) ∧ va_P D vwCl [(mo, .inr (12, [.int v0, .ref m1, .ref m2, .ref m3, .ref m4, .ref m5, .int v6, .int v7, .int v8, .int v9, .int v10, .long v11, .int v12, .int v13, .int v14, .int v15, .ref m16, .ref m17, .ref m18, .ref m19, .ref m20, .ref m21, .ref m22, .ref m23, .int v24, .ref m25, .ref m26, .ref m27, .ref m28, .ref m29, .int v30, .ref m31, .ref m32, .ref m33, .int v34, .int v35, .int v36, .ref m37, .ref m38, .ref m39, .ref m40, .long v41])), (m17, .inl (k 0, 30, .inl f17)), (m18, .inl (k 0, 250, .inl f18)), (m26, .inl (k 0, 8, .inl L2a3))] H ∧ va_D A [(mo, .inr (12, [.int v0, .ref m1, .ref m2, .ref m3, .ref m4, .ref m5, .int v6, .int v7, .int v8, .int v9, .int v10, .long v11, .int v12, .int v13, .int v14, .int v15, .ref m16, .ref m17, .ref m18, .ref m19, .ref m20, .ref m21, .ref m22, .ref m23, .int v24, .ref m25, .ref m26, .ref m27, .ref m28, .ref m29, .int v30, .ref m31, .ref m32, .ref m33, .int v34, .int v35, .int v36, .ref m37, .ref m38, .ref m39, .ref m40, .long v41])), (m17, .inl (k 0, 30, .inl f17)), (m18, .inl (k 0, 250, .inl f18)), (m26, .inl (k 0, 8, .inl L2a3))] ∧ va_S A s.heap H locs ∧ lv_has ls 7 [(0, .ref mo), (1, .int p0), (2, .int p1), (3, .int L2l3)]) (fun n9 H locs ls hI ih_1 => ?_) _ _ _ _ ⟨0, f26, rfl, (show 0 ≤ 0 ∧ 0 ≤ 8 from by omega), hp_f26_0, hP.sub (ws' := [(mo, .inr (12, [.int v0, .ref m1, .ref m2, .ref m3, .ref m4, .ref m5, .int v6, .int v7, .int v8, .int v9, .int v10, .long v11, .int v12, .int v13, .int v14, .int v15, .ref m16, .ref m17, .ref m18, .ref m19, .ref m20, .ref m21, .ref m22, .ref m23, .int v24, .ref m25, .ref m26, .ref m27, .ref m28, .ref m29, .int v30, .ref m31, .ref m32, .ref m33, .int v34, .int v35, .int v36, .ref m37, .ref m38, .ref m39, .ref m40, .long v41])), (m17, .inl (k 0, 30, .inl f17)), (m18, .inl (k 0, 250, .inl f18)), (m26, .inl (k 0, 8, .inl f26))]) [0, 1, 2, 3] rfl, hD.sub (ws' := [(mo, .inr (12, [.int v0, .ref m1, .ref m2, .ref m3, .ref m4, .ref m5, .int v6, .int v7, .int v8, .int v9, .int v10, .long v11, .int v12, .int v13, .int v14, .int v15, .ref m16, .ref m17, .ref m18, .ref m19, .ref m20, .ref m21, .ref m22, .ref m23, .int v24, .ref m25, .ref m26, .ref m27, .ref m28, .ref m29, .int v30, .ref m31, .ref m32, .ref m33, .int v34, .int v35, .int v36, .ref m37, .ref m38, .ref m39, .ref m40, .long v41])), (m17, .inl (k 0, 30, .inl f17)), (m18, .inl (k 0, 250, .inl f18)), (m26, .inl (k 0, 8, .inl f26))]) [0, 1, 2, 3] (by decide) rfl, hS, lv_sub hl [1, 2, 3, 0] rfl⟩
  clear hP hD hS hl
  obtain ⟨L2l3, L2a3, en_2, zL2l3, L2a3h0, hP, hD, hS, hl⟩ := hI
  refine lv_iload_n hx hb dX12_lowers_2 rfl (lv_at hl 3 rfl) ?_
  refine lv_aload_n hx hb dX12_lowers_3 rfl (lv_at hl 0 rfl) ?_
  refine va_get (D := D) (ci := 12) (v := .ref m17) (C := RX12) (T := TX12) (N := 42) hx hb hts iT_X12 hown hK hP 0 rfl rfl 17 (by decide) (hts _ tw_6_70) (fun _ h9 => h9) rfl dX12_lowers_4 ?_
  refine lv_iconst (v := 0) hx hb dX12_lowers_7 (by decide) ?_
  refine va_iald hx hb hK hP 1 0 rfl rfl (z_in (by decide) (by decide)) dX12_lowers_8 ?_
  refine lv_topi (fun x_3 ex_3 => ?_)
  have zx_3r0 : 0 ≤ x_3.toInt ∧ x_3.toInt ≤ 8 := by rw [ex_3]; exact PR.ld hp_f17_0 (by decide) (by decide) (by decide)
  refine lv_icmp_ge (tgt := 168) hx hb dX12_lowers_9 (by decide) (fun h_4 => ?_) (fun h_4 => ?_)
  · skip
    have zh_4 : x_3.toInt ≤ L2l3.toInt := z_le h_4
    have hP9 := hP.sub (ws' := [(mo, .inr (12, [.int v0, .ref m1, .ref m2, .ref m3, .ref m4, .ref m5, .int v6, .int v7, .int v8, .int v9, .int v10, .long v11, .int v12, .int v13, .int v14, .int v15, .ref m16, .ref m17, .ref m18, .ref m19, .ref m20, .ref m21, .ref m22, .ref m23, .int v24, .ref m25, .ref m26, .ref m27, .ref m28, .ref m29, .int v30, .ref m31, .ref m32, .ref m33, .int v34, .int v35, .int v36, .ref m37, .ref m38, .ref m39, .ref m40, .long v41])), (m17, .inl (k 0, 30, .inl f17)), (m18, .inl (k 0, 250, .inl f18)), (m26, .inl (k 0, 8, .inl L2a3))]) [0, 1, 2, 3] rfl
    have hD9 := hD.sub (ws' := [(mo, .inr (12, [.int v0, .ref m1, .ref m2, .ref m3, .ref m4, .ref m5, .int v6, .int v7, .int v8, .int v9, .int v10, .long v11, .int v12, .int v13, .int v14, .int v15, .ref m16, .ref m17, .ref m18, .ref m19, .ref m20, .ref m21, .ref m22, .ref m23, .int v24, .ref m25, .ref m26, .ref m27, .ref m28, .ref m29, .int v30, .ref m31, .ref m32, .ref m33, .int v34, .int v35, .int v36, .ref m37, .ref m38, .ref m39, .ref m40, .long v41])), (m17, .inl (k 0, 30, .inl f17)), (m18, .inl (k 0, 250, .inl f18)), (m26, .inl (k 0, 8, .inl L2a3))]) [0, 1, 2, 3] (by decide) rfl
    exact W.vret hx hb hr (fun tZ ht hW => ⟨⟨L2a3, rfl, L2a3h0, by rw [ht]; exact hP9, va_K.moved hW.alike hK, hD9⟩, hS.F ht⟩) hS.2.2 dX12_lowers_168
  · skip
    have zh_4 : L2l3.toInt < x_3.toInt := z_nle h_4
    refine lv_iconst (v := 0) hx hb dX12_lowers_12 (by decide) ?_
    refine lv_istore (lv' := [(4, .int 0), (0, .ref mo), (1, .int p0), (2, .int p1), (3, .int L2l3)]) hx hb dX12_lowers_13 hl (by decide) rfl (fun ls hl => ?_)
    refine loop_r (Wg := fun H locs ls => W p l e _ s m _ below meth c H locs _ _ _ (F0 m 15 ls [])) (fun n9 H locs ls => ∃ (L15l4 : Int32) (L15a3 : Nat → Int32), n9 = (10 - L15l4.toInt).toNat ∧ (0 ≤ L15l4.toInt ∧ L15l4.toInt ≤ 10) ∧ (PR 8 1 0 0 100000 L15a3) ∧ va_P D vwCl [(mo, .inr (12, [.int v0, .ref m1, .ref m2, .ref m3, .ref m4, .ref m5, .int v6, .int v7, .int v8, .int v9, .int v10, .long v11, .int v12, .int v13, .int v14, .int v15, .ref m16, .ref m17, .ref m18, .ref m19, .ref m20, .ref m21, .ref m22, .ref m23, .int v24, .ref m25, .ref m26, .ref m27, .ref m28, .ref m29, .int v30, .ref m31, .ref m32, .ref m33, .int v34, .int v35, .int v36, .ref m37, .ref m38, .ref m39, .ref m40, .long v41])), (m17, .inl (k 0, 30, .inl f17)), (m18, .inl (k 0, 250, .inl f18)), (m26, .inl (k 0, 8, .inl L15a3))] H ∧ va_D A [(mo, .inr (12, [.int v0, .ref m1, .ref m2, .ref m3, .ref m4, .ref m5, .int v6, .int v7, .int v8, .int v9, .int v10, .long v11, .int v12, .int v13, .int v14, .int v15, .ref m16, .ref m17, .ref m18, .ref m19, .ref m20, .ref m21, .ref m22, .ref m23, .int v24, .ref m25, .ref m26, .ref m27, .ref m28, .ref m29, .int v30, .ref m31, .ref m32, .ref m33, .int v34, .int v35, .int v36, .ref m37, .ref m38, .ref m39, .ref m40, .long v41])), (m17, .inl (k 0, 30, .inl f17)), (m18, .inl (k 0, 250, .inl f18)), (m26, .inl (k 0, 8, .inl L15a3))] ∧ va_S A s.heap H locs ∧ lv_has ls 7 [(0, .ref mo), (1, .int p0), (2, .int p1), (3, .int L2l3), (4, .int L15l4)]) (fun n9 H locs ls hI ih_5 => ?_) _ _ _ _ ⟨0, L2a3, rfl, (show 0 ≤ 0 ∧ 0 ≤ 10 from by omega), L2a3h0, hP.sub (ws' := [(mo, .inr (12, [.int v0, .ref m1, .ref m2, .ref m3, .ref m4, .ref m5, .int v6, .int v7, .int v8, .int v9, .int v10, .long v11, .int v12, .int v13, .int v14, .int v15, .ref m16, .ref m17, .ref m18, .ref m19, .ref m20, .ref m21, .ref m22, .ref m23, .int v24, .ref m25, .ref m26, .ref m27, .ref m28, .ref m29, .int v30, .ref m31, .ref m32, .ref m33, .int v34, .int v35, .int v36, .ref m37, .ref m38, .ref m39, .ref m40, .long v41])), (m17, .inl (k 0, 30, .inl f17)), (m18, .inl (k 0, 250, .inl f18)), (m26, .inl (k 0, 8, .inl L2a3))]) [0, 1, 2, 3] rfl, hD.sub (ws' := [(mo, .inr (12, [.int v0, .ref m1, .ref m2, .ref m3, .ref m4, .ref m5, .int v6, .int v7, .int v8, .int v9, .int v10, .long v11, .int v12, .int v13, .int v14, .int v15, .ref m16, .ref m17, .ref m18, .ref m19, .ref m20, .ref m21, .ref m22, .ref m23, .int v24, .ref m25, .ref m26, .ref m27, .ref m28, .ref m29, .int v30, .ref m31, .ref m32, .ref m33, .int v34, .int v35, .int v36, .ref m37, .ref m38, .ref m39, .ref m40, .long v41])), (m17, .inl (k 0, 30, .inl f17)), (m18, .inl (k 0, 250, .inl f18)), (m26, .inl (k 0, 8, .inl L2a3))]) [0, 1, 2, 3] (by decide) rfl, hS, lv_sub hl [1, 2, 3, 4, 0] rfl⟩
    clear hP hD hS hl
    obtain ⟨L15l4, L15a3, en_6, zL15l4, L15a3h0, hP, hD, hS, hl⟩ := hI
    refine lv_iload hx hb dX12_lowers_15 (lv_at hl 4 rfl) ?_
    refine lv_aload_n hx hb dX12_lowers_17 rfl (lv_at hl 0 rfl) ?_
    refine va_get (D := D) (ci := 12) (v := .ref m17) (C := RX12) (T := TX12) (N := 42) hx hb hts iT_X12 hown hK hP 0 rfl rfl 17 (by decide) (hts _ tw_6_70) (fun _ h9 => h9) rfl dX12_lowers_18 ?_
    refine lv_iconst (v := 1) hx hb dX12_lowers_21 (by decide) ?_
    refine va_iald hx hb hK hP 1 0 rfl rfl (z_in (by decide) (by decide)) dX12_lowers_22 ?_
    refine lv_topi (fun x_7 ex_7 => ?_)
    have zx_7r1 : 0 ≤ x_7.toInt ∧ x_7.toInt ≤ 10 := by rw [ex_7]; exact PR.ld hp_f17_1 (by decide) (by decide) (by decide)
    refine lv_icmp_ge (tgt := 162) hx hb dX12_lowers_23 (by decide) (fun h_8 => ?_) (fun h_8 => ?_)
    · skip
      have zh_8 : x_7.toInt ≤ L15l4.toInt := z_le h_8
      obtain ⟨x_9, ex_9⟩ : ∃ y : Int32, y = L2l3 + 1 := ⟨_, rfl⟩
      have zx_9 : x_9.toInt = L2l3.toInt + 1 := by rw [ex_9]; exact z_add rfl rfl (by omega) (by omega)
      refine lv_iinc (v := x_9) (lv' := [(3, .int x_9), (0, .ref mo), (1, .int p0), (2, .int p1), (4, .int L15l4)]) hx hb dX12_lowers_162 hl (k := 3) rfl (by rw [ex_9]; rfl) (by decide) rfl (fun ls hl => ?_)
      refine lv_goto (tgt := 2) hx hb dX12_lowers_165 (by decide) ?_
      exact ih_1 _ _ _ _ (by omega) ⟨x_9, L15a3, rfl, (show 0 ≤ x_9.toInt ∧ x_9.toInt ≤ 8 from by omega), L15a3h0, hP.sub (ws' := [(mo, .inr (12, [.int v0, .ref m1, .ref m2, .ref m3, .ref m4, .ref m5, .int v6, .int v7, .int v8, .int v9, .int v10, .long v11, .int v12, .int v13, .int v14, .int v15, .ref m16, .ref m17, .ref m18, .ref m19, .ref m20, .ref m21, .ref m22, .ref m23, .int v24, .ref m25, .ref m26, .ref m27, .ref m28, .ref m29, .int v30, .ref m31, .ref m32, .ref m33, .int v34, .int v35, .int v36, .ref m37, .ref m38, .ref m39, .ref m40, .long v41])), (m17, .inl (k 0, 30, .inl f17)), (m18, .inl (k 0, 250, .inl f18)), (m26, .inl (k 0, 8, .inl L15a3))]) [0, 1, 2, 3] rfl, hD.sub (ws' := [(mo, .inr (12, [.int v0, .ref m1, .ref m2, .ref m3, .ref m4, .ref m5, .int v6, .int v7, .int v8, .int v9, .int v10, .long v11, .int v12, .int v13, .int v14, .int v15, .ref m16, .ref m17, .ref m18, .ref m19, .ref m20, .ref m21, .ref m22, .ref m23, .int v24, .ref m25, .ref m26, .ref m27, .ref m28, .ref m29, .int v30, .ref m31, .ref m32, .ref m33, .int v34, .int v35, .int v36, .ref m37, .ref m38, .ref m39, .ref m40, .long v41])), (m17, .inl (k 0, 30, .inl f17)), (m18, .inl (k 0, 250, .inl f18)), (m26, .inl (k 0, 8, .inl L15a3))]) [0, 1, 2, 3] (by decide) rfl, hS, lv_sub hl [1, 2, 3, 0] rfl⟩
    · skip
      have zh_8 : L15l4.toInt < x_7.toInt := z_nle h_8
      refine lv_iload_n hx hb dX12_lowers_26 rfl (lv_at hl 1 rfl) ?_
      refine lv_iload hx hb dX12_lowers_27 (lv_at hl 4 rfl) ?_
      have hPc := hP.sub (ws' := []) [] rfl
      have hDc := hD.sub (ws' := []) [] (by decide) rfl
      have hFc := va_free (wc := []) hD hS hA [] rfl
      refine va_calli (va_runS (As := [.int p0, .int L15l4]) (rest := []) ⟨hx, hb, hml, hown, hts⟩ (c_X12_isBit l D k p0 L15l4 H.size) (va_cwS 2 hts (gS tw_7_107 tw_7_108 tw_1_13 tw_7_109) rfl rfl rfl hdS_X12_isBit ⟨Nat.le_of_ble_eq_true rfl, Nat.le_of_ble_eq_true rfl⟩) (cz_S hK hPc hDc hN [.int p0, .int L15l4]) rfl rfl hl.1 rfl (lv_room (Nat.le_of_ble_eq_true rfl)) dX12_lowers_29 ⟨Nat.le_of_ble_eq_true rfl, Nat.le_of_ble_eq_true rfl⟩) hS (fun q _ h => hFc q h) hFc (fun r_10 uZ tZ H1 locs ht hvm hw hB hz1 hk1 hS => ?_)
      obtain ⟨hP1, hK1, hD1⟩ := hB
      rw [ht] at hP1
      obtain ⟨hP, hD⟩ := va_join (wr := [(mo, .inr (12, [.int v0, .ref m1, .ref m2, .ref m3, .ref m4, .ref m5, .int v6, .int v7, .int v8, .int v9, .int v10, .long v11, .int v12, .int v13, .int v14, .int v15, .ref m16, .ref m17, .ref m18, .ref m19, .ref m20, .ref m21, .ref m22, .ref m23, .int v24, .ref m25, .ref m26, .ref m27, .ref m28, .ref m29, .int v30, .ref m31, .ref m32, .ref m33, .int v34, .int v35, .int v36, .ref m37, .ref m38, .ref m39, .ref m40, .long v41])), (m17, .inl (k 0, 30, .inl f17)), (m18, .inl (k 0, 250, .inl f18)), (m26, .inl (k 0, 8, .inl L15a3))]) (w1 := []) hP hD [] [0, 1, 2, 3] rfl rfl (by decide) (by decide) hk1 hFc hP1 hD1
      clear hK1 hP1 hD1 hPc hDc hFc
      clear hk1 hz1 ht hvm
      have hP : va_P D vwCl [(mo, .inr (12, [.int v0, .ref m1, .ref m2, .ref m3, .ref m4, .ref m5, .int v6, .int v7, .int v8, .int v9, .int v10, .long v11, .int v12, .int v13, .int v14, .int v15, .ref m16, .ref m17, .ref m18, .ref m19, .ref m20, .ref m21, .ref m22, .ref m23, .int v24, .ref m25, .ref m26, .ref m27, .ref m28, .ref m29, .int v30, .ref m31, .ref m32, .ref m33, .int v34, .int v35, .int v36, .ref m37, .ref m38, .ref m39, .ref m40, .long v41])), (m17, .inl (k 0, 30, .inl f17)), (m18, .inl (k 0, 250, .inl f18)), (m26, .inl (k 0, 8, .inl L15a3))] H1 := hP
      have hD : va_D A [(mo, .inr (12, [.int v0, .ref m1, .ref m2, .ref m3, .ref m4, .ref m5, .int v6, .int v7, .int v8, .int v9, .int v10, .long v11, .int v12, .int v13, .int v14, .int v15, .ref m16, .ref m17, .ref m18, .ref m19, .ref m20, .ref m21, .ref m22, .ref m23, .int v24, .ref m25, .ref m26, .ref m27, .ref m28, .ref m29, .int v30, .ref m31, .ref m32, .ref m33, .int v34, .int v35, .int v36, .ref m37, .ref m38, .ref m39, .ref m40, .long v41])), (m17, .inl (k 0, 30, .inl f17)), (m18, .inl (k 0, 250, .inl f18)), (m26, .inl (k 0, 8, .inl L15a3))] := hD
      generalize H1 = H at hP hS ⊢
      have hw_11 : (0 ≤ r_10.toInt ∧ r_10.toInt ≤ 1) ∧ (r_10 = bitOf p0 L15l4) := hw
      obtain ⟨hw_12, hw_13⟩ := hw_11
      clear hw
      refine lv_if_ne (tgt := 38) hx hb dX12_lowers_32 (by decide) (fun h_14 => ?_) (fun h_14 => ?_)
      · skip
        have zh_14 : ¬ r_10.toInt = 0 := z_ne h_14
        refine lv_aload_n hx hb dX12_lowers_38 rfl (lv_at hl 0 rfl) ?_
        refine va_get (D := D) (ci := 12) (v := .ref m18) (C := RX12) (T := TX12) (N := 42) hx hb hts iT_X12 hown hK hP 0 rfl rfl 18 (by decide) (hts _ tw_6_71) (fun _ h9 => h9) rfl dX12_lowers_39 ?_
        refine lv_iconst (v := 5) hx hb dX12_lowers_42 (by decide) ?_
        refine lv_iload hx hb dX12_lowers_43 (lv_at hl 4 rfl) ?_
        refine lv_imul hx hb dX12_lowers_45 ?_
        refine lv_topi (fun x_15 ex_15 => ?_)
        have zx_15 : x_15.toInt = 5 * L15l4.toInt := by rw [ex_15]; exact z_mul rfl rfl (by omega) (by omega)
        refine va_iald hx hb hK hP 2 0 rfl rfl (z_in (by omega) (by omega)) dX12_lowers_46 ?_
        refine lv_topi (fun x_16 ex_16 => ?_)
        have zx_16r0 : 0 ≤ x_16.toInt ∧ x_16.toInt ≤ 7 := by rw [ex_16]; exact PR.ld hp_f18_0 (by omega) (by omega) (by omega)
        refine lv_istore (lv' := [(5, .int x_16), (0, .ref mo), (1, .int p0), (2, .int p1), (3, .int L2l3), (4, .int L15l4)]) hx hb dX12_lowers_47 hl (by decide) rfl (fun ls hl => ?_)
        refine lv_aload_n hx hb dX12_lowers_49 rfl (lv_at hl 1 rfl) ?_
        refine va_get (D := D) (ci := 12) (v := .ref m18) (C := RX12) (T := TX12) (N := 42) hx hb hts iT_X12 hown hK hP 0 rfl rfl 18 (by decide) (hts _ tw_6_71) (fun _ h9 => h9) rfl dX12_lowers_50 ?_
        refine lv_iconst (v := 5) hx hb dX12_lowers_53 (by decide) ?_
        refine lv_iload hx hb dX12_lowers_54 (lv_at hl 5 rfl) ?_
        refine lv_imul hx hb dX12_lowers_56 ?_
        refine lv_topi (fun x_17 ex_17 => ?_)
        obtain rfl : x_15 = x_17 := ex_15.trans ex_17.symm
        refine lv_iconst (v := 1) hx hb dX12_lowers_57 (by decide) ?_
        refine lv_iadd hx hb dX12_lowers_58 ?_
        refine lv_topi (fun x_18 ex_18 => ?_)
        have zx_18 : x_18.toInt = x_15.toInt + 1 := by rw [ex_18]; exact z_add rfl rfl (by omega) (by omega)
        refine va_iald hx hb hK hP 2 0 rfl rfl (z_in (by omega) (by omega)) dX12_lowers_59 ?_
        refine lv_topi (fun x_19 ex_19 => ?_)
        have zx_19r1 : 0 ≤ x_19.toInt ∧ x_19.toInt ≤ 7 := by rw [ex_19]; exact PR.ld hp_f18_1 (by omega) (by omega) (by omega)
        refine lv_istore (lv' := [(6, .int x_19), (5, .int x_16), (0, .ref mo), (1, .int p0), (2, .int p1), (3, .int L2l3), (4, .int L15l4)]) hx hb dX12_lowers_60 hl (by decide) rfl (fun ls hl => ?_)
        refine lv_aload_n hx hb dX12_lowers_62 rfl (lv_at hl 2 rfl) ?_
        refine va_get (D := D) (ci := 12) (v := .ref m26) (C := RX12) (T := TX12) (N := 42) hx hb hts iT_X12 hown hK hP 0 rfl rfl 26 (by decide) (hts _ tw_6_79) (fun _ h9 => h9) rfl dX12_lowers_63 ?_
        refine lv_iload hx hb dX12_lowers_66 (lv_at hl 1 rfl) ?_
        refine va_iald hx hb hK hP 3 0 rfl rfl (z_in (by omega) (by omega)) dX12_lowers_68 ?_
        refine lv_topi (fun x_20 ex_20 => ?_)
        have zx_20r0 : 0 ≤ x_20.toInt ∧ x_20.toInt ≤ 100000 := by rw [ex_20]; exact PR.ld L15a3h0 (by omega) (by omega) (by omega)
        refine lv_aload_n hx hb dX12_lowers_69 rfl (lv_at hl 2 rfl) ?_
        refine lv_iload hx hb dX12_lowers_70 (lv_at hl 6 rfl) ?_
        refine lv_iload_n hx hb dX12_lowers_72 rfl (lv_at hl 4 rfl) ?_
        have hPc := hP.sub (ws' := [(mo, .inr (12, [.int v0, .ref m1, .ref m2, .ref m3, .ref m4, .ref m5, .int v6, .int v7, .int v8, .int v9, .int v10, .long v11, .int v12, .int v13, .int v14, .int v15, .ref m16, .ref m17, .ref m18, .ref m19, .ref m20, .ref m21, .ref m22, .ref m23, .int v24, .ref m25, .ref m26, .ref m27, .ref m28, .ref m29, .int v30, .ref m31, .ref m32, .ref m33, .int v34, .int v35, .int v36, .ref m37, .ref m38, .ref m39, .ref m40, .long v41])), (m18, .inl (k 0, 250, .inl f18))]) [0, 2] rfl
        have hDc := hD.sub (ws' := [(mo, .inr (12, [.int v0, .ref m1, .ref m2, .ref m3, .ref m4, .ref m5, .int v6, .int v7, .int v8, .int v9, .int v10, .long v11, .int v12, .int v13, .int v14, .int v15, .ref m16, .ref m17, .ref m18, .ref m19, .ref m20, .ref m21, .ref m22, .ref m23, .int v24, .ref m25, .ref m26, .ref m27, .ref m28, .ref m29, .int v30, .ref m31, .ref m32, .ref m33, .int v34, .int v35, .int v36, .ref m37, .ref m38, .ref m39, .ref m40, .long v41])), (m18, .inl (k 0, 250, .inl f18))]) [0, 2] (by decide) rfl
        have hFc := va_free (wc := [(mo, .inr (12, [.int v0, .ref m1, .ref m2, .ref m3, .ref m4, .ref m5, .int v6, .int v7, .int v8, .int v9, .int v10, .long v11, .int v12, .int v13, .int v14, .int v15, .ref m16, .ref m17, .ref m18, .ref m19, .ref m20, .ref m21, .ref m22, .ref m23, .int v24, .ref m25, .ref m26, .ref m27, .ref m28, .ref m29, .int v30, .ref m31, .ref m32, .ref m33, .int v34, .int v35, .int v36, .ref m37, .ref m38, .ref m39, .ref m40, .long v41])), (m18, .inl (k 0, 250, .inl f18))]) hD hS hA [0, 2] rfl
        refine va_calli (va_runV (C := RX12) (As := [.int L15l4, .int p1]) (rest := [.int x_20]) ⟨hx, hb, hml, hown, hts⟩ (c_X12_takes_ l D k mo L15l4 p1 v0 m1 m2 m3 m4 m5 v6 v7 v8 v9 v10 v11 v12 v13 v14 v15 m16 m17 m18 m19 m20 m21 m22 m23 v24 m25 m26 m27 m28 m29 v30 m31 m32 m33 v34 v35 v36 m37 m38 m39 m40 v41 f18 H.size (show 0 ≤ L15l4.toInt ∧ L15l4.toInt ≤ 9 from by omega) (show 0 ≤ v6.toInt ∧ v6.toInt ≤ 1000 from by omega) (show 0 ≤ v24.toInt ∧ v24.toInt ≤ 1023 from by omega) hp_f18_0 hp_f18_1 hp_f18_2 hp_f18_3) (cwV 2 hts (gV tw_7_157 tw_7_159 tw_p_68 tw_1_13 tw_7_160) rfl rfl rfl hdV_X12_takes_ ⟨Nat.le_of_ble_eq_true rfl, Nat.le_of_ble_eq_true rfl⟩) (cz_V hK hPc hDc hN (ci := 12) (q0 := 0) rfl rfl [.int L15l4, .int p1]) rfl rfl hl.1 rfl (lv_room (Nat.le_of_ble_eq_true rfl)) dX12_lowers_73 ⟨Nat.le_of_ble_eq_true rfl, Nat.le_of_ble_eq_true rfl⟩) hS (fun q _ h => hFc q h) hFc (fun r_21 uZ tZ H1 locs ht hvm hw hB hz1 hk1 hS => ?_)
        obtain ⟨hP1, hK1, hD1⟩ := hB
        rw [ht] at hP1
        obtain ⟨hP, hD⟩ := va_join (wr := [(m17, .inl (k 0, 30, .inl f17)), (m26, .inl (k 0, 8, .inl L15a3))]) (w1 := [(mo, .inr (12, [.int v0, .ref m1, .ref m2, .ref m3, .ref m4, .ref m5, .int v6, .int v7, .int v8, .int v9, .int v10, .long v11, .int v12, .int v13, .int v14, .int v15, .ref m16, .ref m17, .ref m18, .ref m19, .ref m20, .ref m21, .ref m22, .ref m23, .int v24, .ref m25, .ref m26, .ref m27, .ref m28, .ref m29, .int v30, .ref m31, .ref m32, .ref m33, .int v34, .int v35, .int v36, .ref m37, .ref m38, .ref m39, .ref m40, .long v41])), (m18, .inl (k 0, 250, .inl f18))]) hP hD [0, 2] [1, 3] rfl rfl (by decide) (by decide) hk1 hFc hP1 hD1
        clear hK1 hP1 hD1 hPc hDc hFc
        clear hk1 hz1 ht hvm
        have hP : va_P D vwCl [(m17, .inl (k 0, 30, .inl f17)), (m26, .inl (k 0, 8, .inl L15a3)), (mo, .inr (12, [.int v0, .ref m1, .ref m2, .ref m3, .ref m4, .ref m5, .int v6, .int v7, .int v8, .int v9, .int v10, .long v11, .int v12, .int v13, .int v14, .int v15, .ref m16, .ref m17, .ref m18, .ref m19, .ref m20, .ref m21, .ref m22, .ref m23, .int v24, .ref m25, .ref m26, .ref m27, .ref m28, .ref m29, .int v30, .ref m31, .ref m32, .ref m33, .int v34, .int v35, .int v36, .ref m37, .ref m38, .ref m39, .ref m40, .long v41])), (m18, .inl (k 0, 250, .inl f18))] H1 := hP
        have hD : va_D A [(m17, .inl (k 0, 30, .inl f17)), (m26, .inl (k 0, 8, .inl L15a3)), (mo, .inr (12, [.int v0, .ref m1, .ref m2, .ref m3, .ref m4, .ref m5, .int v6, .int v7, .int v8, .int v9, .int v10, .long v11, .int v12, .int v13, .int v14, .int v15, .ref m16, .ref m17, .ref m18, .ref m19, .ref m20, .ref m21, .ref m22, .ref m23, .int v24, .ref m25, .ref m26, .ref m27, .ref m28, .ref m29, .int v30, .ref m31, .ref m32, .ref m33, .int v34, .int v35, .int v36, .ref m37, .ref m38, .ref m39, .ref m40, .long v41])), (m18, .inl (k 0, 250, .inl f18))] := hD
        generalize H1 = H at hP hS ⊢
        have hw_22 : (0 ≤ r_21.toInt ∧ r_21.toInt ≤ 70) ∧ (r_21 = takesOf f18 L15l4 p1) ∧ ((f18 (5 * L15l4 + 2).toNatClampNeg).toInt ≤ r_21.toInt) := hw
        obtain ⟨hw_23, hw_24, hw_25⟩ := hw_22
        clear hw
        refine lv_iadd hx hb dX12_lowers_76 ?_
        refine lv_topi (fun x_26 ex_26 => ?_)
        have zx_26 : x_26.toInt = x_20.toInt + r_21.toInt := by rw [ex_26]; exact z_add rfl rfl (by omega) (by omega)
        refine lv_aload_n hx hb dX12_lowers_77 rfl (lv_at hl 2 rfl) ?_
        refine va_get (D := D) (ci := 12) (v := .ref m26) (C := RX12) (T := TX12) (N := 42) hx hb hts iT_X12 hown hK hP 2 rfl rfl 26 (by decide) (hts _ tw_6_79) (fun _ h9 => h9) rfl dX12_lowers_78 ?_
        refine lv_iload hx hb dX12_lowers_81 (lv_at hl 0 rfl) ?_
        refine va_iald hx hb hK hP 1 0 rfl rfl (z_in (by omega) (by omega)) dX12_lowers_83 ?_
        refine lv_topi (fun x_27 ex_27 => ?_)
        have zx_27r0 : 0 ≤ x_27.toInt ∧ x_27.toInt ≤ 100000 := by rw [ex_27]; exact PR.ld L15a3h0 (by omega) (by omega) (by omega)
        refine lv_icmp_ge (tgt := 109) hx hb dX12_lowers_84 (by decide) (fun h_28 => ?_) (fun h_28 => ?_)
        · skip
          have zh_28 : x_27.toInt ≤ x_26.toInt := z_le h_28
          refine lv_aload_n hx hb dX12_lowers_109 rfl (lv_at hl 2 rfl) ?_
          refine va_get (D := D) (ci := 12) (v := .ref m26) (C := RX12) (T := TX12) (N := 42) hx hb hts iT_X12 hown hK hP 2 rfl rfl 26 (by decide) (hts _ tw_6_79) (fun _ h9 => h9) rfl dX12_lowers_110 ?_
          refine lv_iload hx hb dX12_lowers_113 (lv_at hl 0 rfl) ?_
          refine va_iald hx hb hK hP 1 0 rfl rfl (z_in (by omega) (by omega)) dX12_lowers_115 ?_
          refine lv_topi (fun x_29 ex_29 => ?_)
          obtain rfl : x_27 = x_29 := ex_27.trans ex_29.symm
          refine lv_aload_n hx hb dX12_lowers_116 rfl (lv_at hl 2 rfl) ?_
          refine lv_iload hx hb dX12_lowers_117 (lv_at hl 6 rfl) ?_
          refine lv_iload_n hx hb dX12_lowers_119 rfl (lv_at hl 4 rfl) ?_
          have hPc := hP.sub (ws' := [(mo, .inr (12, [.int v0, .ref m1, .ref m2, .ref m3, .ref m4, .ref m5, .int v6, .int v7, .int v8, .int v9, .int v10, .long v11, .int v12, .int v13, .int v14, .int v15, .ref m16, .ref m17, .ref m18, .ref m19, .ref m20, .ref m21, .ref m22, .ref m23, .int v24, .ref m25, .ref m26, .ref m27, .ref m28, .ref m29, .int v30, .ref m31, .ref m32, .ref m33, .int v34, .int v35, .int v36, .ref m37, .ref m38, .ref m39, .ref m40, .long v41])), (m18, .inl (k 0, 250, .inl f18))]) [2, 3] rfl
          have hDc := hD.sub (ws' := [(mo, .inr (12, [.int v0, .ref m1, .ref m2, .ref m3, .ref m4, .ref m5, .int v6, .int v7, .int v8, .int v9, .int v10, .long v11, .int v12, .int v13, .int v14, .int v15, .ref m16, .ref m17, .ref m18, .ref m19, .ref m20, .ref m21, .ref m22, .ref m23, .int v24, .ref m25, .ref m26, .ref m27, .ref m28, .ref m29, .int v30, .ref m31, .ref m32, .ref m33, .int v34, .int v35, .int v36, .ref m37, .ref m38, .ref m39, .ref m40, .long v41])), (m18, .inl (k 0, 250, .inl f18))]) [2, 3] (by decide) rfl
          have hFc := va_free (wc := [(mo, .inr (12, [.int v0, .ref m1, .ref m2, .ref m3, .ref m4, .ref m5, .int v6, .int v7, .int v8, .int v9, .int v10, .long v11, .int v12, .int v13, .int v14, .int v15, .ref m16, .ref m17, .ref m18, .ref m19, .ref m20, .ref m21, .ref m22, .ref m23, .int v24, .ref m25, .ref m26, .ref m27, .ref m28, .ref m29, .int v30, .ref m31, .ref m32, .ref m33, .int v34, .int v35, .int v36, .ref m37, .ref m38, .ref m39, .ref m40, .long v41])), (m18, .inl (k 0, 250, .inl f18))]) hD hS hA [2, 3] rfl
          refine va_calli (va_runV (C := RX12) (As := [.int L15l4, .int p1]) (rest := [.int x_27]) ⟨hx, hb, hml, hown, hts⟩ (c_X12_takes_ l D k mo L15l4 p1 v0 m1 m2 m3 m4 m5 v6 v7 v8 v9 v10 v11 v12 v13 v14 v15 m16 m17 m18 m19 m20 m21 m22 m23 v24 m25 m26 m27 m28 m29 v30 m31 m32 m33 v34 v35 v36 m37 m38 m39 m40 v41 f18 H.size (show 0 ≤ L15l4.toInt ∧ L15l4.toInt ≤ 9 from by omega) (show 0 ≤ v6.toInt ∧ v6.toInt ≤ 1000 from by omega) (show 0 ≤ v24.toInt ∧ v24.toInt ≤ 1023 from by omega) hp_f18_0 hp_f18_1 hp_f18_2 hp_f18_3) (cwV 2 hts (gV tw_7_157 tw_7_159 tw_p_68 tw_1_13 tw_7_160) rfl rfl rfl hdV_X12_takes_ ⟨Nat.le_of_ble_eq_true rfl, Nat.le_of_ble_eq_true rfl⟩) (cz_V hK hPc hDc hN (ci := 12) (q0 := 0) rfl rfl [.int L15l4, .int p1]) rfl rfl hl.1 rfl (lv_room (Nat.le_of_ble_eq_true rfl)) dX12_lowers_120 ⟨Nat.le_of_ble_eq_true rfl, Nat.le_of_ble_eq_true rfl⟩) hS (fun q _ h => hFc q h) hFc (fun r_30 uZ tZ H1 locs ht hvm hw hB hz1 hk1 hS => ?_)
          obtain ⟨hP1, hK1, hD1⟩ := hB
          rw [ht] at hP1
          obtain ⟨hP, hD⟩ := va_join (wr := [(m17, .inl (k 0, 30, .inl f17)), (m26, .inl (k 0, 8, .inl L15a3))]) (w1 := [(mo, .inr (12, [.int v0, .ref m1, .ref m2, .ref m3, .ref m4, .ref m5, .int v6, .int v7, .int v8, .int v9, .int v10, .long v11, .int v12, .int v13, .int v14, .int v15, .ref m16, .ref m17, .ref m18, .ref m19, .ref m20, .ref m21, .ref m22, .ref m23, .int v24, .ref m25, .ref m26, .ref m27, .ref m28, .ref m29, .int v30, .ref m31, .ref m32, .ref m33, .int v34, .int v35, .int v36, .ref m37, .ref m38, .ref m39, .ref m40, .long v41])), (m18, .inl (k 0, 250, .inl f18))]) hP hD [2, 3] [0, 1] rfl rfl (by decide) (by decide) hk1 hFc hP1 hD1
          clear hK1 hP1 hD1 hPc hDc hFc
          clear hk1 hz1 ht hvm
          have hP : va_P D vwCl [(m17, .inl (k 0, 30, .inl f17)), (m26, .inl (k 0, 8, .inl L15a3)), (mo, .inr (12, [.int v0, .ref m1, .ref m2, .ref m3, .ref m4, .ref m5, .int v6, .int v7, .int v8, .int v9, .int v10, .long v11, .int v12, .int v13, .int v14, .int v15, .ref m16, .ref m17, .ref m18, .ref m19, .ref m20, .ref m21, .ref m22, .ref m23, .int v24, .ref m25, .ref m26, .ref m27, .ref m28, .ref m29, .int v30, .ref m31, .ref m32, .ref m33, .int v34, .int v35, .int v36, .ref m37, .ref m38, .ref m39, .ref m40, .long v41])), (m18, .inl (k 0, 250, .inl f18))] H1 := hP
          have hD : va_D A [(m17, .inl (k 0, 30, .inl f17)), (m26, .inl (k 0, 8, .inl L15a3)), (mo, .inr (12, [.int v0, .ref m1, .ref m2, .ref m3, .ref m4, .ref m5, .int v6, .int v7, .int v8, .int v9, .int v10, .long v11, .int v12, .int v13, .int v14, .int v15, .ref m16, .ref m17, .ref m18, .ref m19, .ref m20, .ref m21, .ref m22, .ref m23, .int v24, .ref m25, .ref m26, .ref m27, .ref m28, .ref m29, .int v30, .ref m31, .ref m32, .ref m33, .int v34, .int v35, .int v36, .ref m37, .ref m38, .ref m39, .ref m40, .long v41])), (m18, .inl (k 0, 250, .inl f18))] := hD
          generalize H1 = H at hP hS ⊢
          have hw_31 : (0 ≤ r_30.toInt ∧ r_30.toInt ≤ 70) ∧ (r_30 = takesOf f18 L15l4 p1) ∧ ((f18 (5 * L15l4 + 2).toNatClampNeg).toInt ≤ r_30.toInt) := hw
          obtain ⟨hw_32, hw_33, hw_34⟩ := hw_31
          clear hw
          obtain rfl : r_21 = r_30 := hw_24.trans hw_33.symm
          refine lv_iadd hx hb dX12_lowers_123 ?_
          refine lv_topi (fun x_35 ex_35 => ?_)
          have zx_35 : x_35.toInt = x_27.toInt + r_21.toInt := by rw [ex_35]; exact z_add rfl rfl (by omega) (by omega)
          refine lv_aload_n hx hb dX12_lowers_124 rfl (lv_at hl 2 rfl) ?_
          refine va_get (D := D) (ci := 12) (v := .ref m26) (C := RX12) (T := TX12) (N := 42) hx hb hts iT_X12 hown hK hP 2 rfl rfl 26 (by decide) (hts _ tw_6_79) (fun _ h9 => h9) rfl dX12_lowers_125 ?_
          refine lv_iload hx hb dX12_lowers_128 (lv_at hl 1 rfl) ?_
          refine va_iald hx hb hK hP 1 0 rfl rfl (z_in (by omega) (by omega)) dX12_lowers_130 ?_
          refine lv_topi (fun x_36 ex_36 => ?_)
          obtain rfl : x_20 = x_36 := ex_20.trans ex_36.symm
          refine lv_icmp_ge (tgt := 156) hx hb dX12_lowers_131 (by decide) (fun h_37 => ?_) (fun h_37 => ?_)
          · skip
            have zh_37 : x_20.toInt ≤ x_35.toInt := z_le h_37
            obtain ⟨x_38, ex_38⟩ : ∃ y : Int32, y = L15l4 + 1 := ⟨_, rfl⟩
            have zx_38 : x_38.toInt = L15l4.toInt + 1 := by rw [ex_38]; exact z_add rfl rfl (by omega) (by omega)
            refine lv_iinc (v := x_38) (lv' := [(4, .int x_38), (6, .int x_19), (5, .int x_16), (0, .ref mo), (1, .int p0), (2, .int p1), (3, .int L2l3)]) hx hb dX12_lowers_156 hl (k := 6) rfl (by rw [ex_38]; rfl) (by decide) rfl (fun ls hl => ?_)
            refine lv_goto (tgt := 15) hx hb dX12_lowers_159 (by decide) ?_
            exact ih_5 _ _ _ _ (by omega) ⟨x_38, L15a3, rfl, (show 0 ≤ x_38.toInt ∧ x_38.toInt ≤ 10 from by omega), L15a3h0, hP.sub (ws' := [(mo, .inr (12, [.int v0, .ref m1, .ref m2, .ref m3, .ref m4, .ref m5, .int v6, .int v7, .int v8, .int v9, .int v10, .long v11, .int v12, .int v13, .int v14, .int v15, .ref m16, .ref m17, .ref m18, .ref m19, .ref m20, .ref m21, .ref m22, .ref m23, .int v24, .ref m25, .ref m26, .ref m27, .ref m28, .ref m29, .int v30, .ref m31, .ref m32, .ref m33, .int v34, .int v35, .int v36, .ref m37, .ref m38, .ref m39, .ref m40, .long v41])), (m17, .inl (k 0, 30, .inl f17)), (m18, .inl (k 0, 250, .inl f18)), (m26, .inl (k 0, 8, .inl L15a3))]) [2, 0, 3, 1] rfl, hD.sub (ws' := [(mo, .inr (12, [.int v0, .ref m1, .ref m2, .ref m3, .ref m4, .ref m5, .int v6, .int v7, .int v8, .int v9, .int v10, .long v11, .int v12, .int v13, .int v14, .int v15, .ref m16, .ref m17, .ref m18, .ref m19, .ref m20, .ref m21, .ref m22, .ref m23, .int v24, .ref m25, .ref m26, .ref m27, .ref m28, .ref m29, .int v30, .ref m31, .ref m32, .ref m33, .int v34, .int v35, .int v36, .ref m37, .ref m38, .ref m39, .ref m40, .long v41])), (m17, .inl (k 0, 30, .inl f17)), (m18, .inl (k 0, 250, .inl f18)), (m26, .inl (k 0, 8, .inl L15a3))]) [2, 0, 3, 1] (by decide) rfl, hS, lv_sub hl [3, 4, 5, 6, 0] rfl⟩
          · skip
            have zh_37 : x_35.toInt < x_20.toInt := z_nle h_37
            refine lv_aload_n hx hb dX12_lowers_134 rfl (lv_at hl 2 rfl) ?_
            refine va_get (D := D) (ci := 12) (v := .ref m26) (C := RX12) (T := TX12) (N := 42) hx hb hts iT_X12 hown hK hP 2 rfl rfl 26 (by decide) (hts _ tw_6_79) (fun _ h9 => h9) rfl dX12_lowers_135 ?_
            refine lv_iload hx hb dX12_lowers_138 (lv_at hl 1 rfl) ?_
            refine lv_aload_n hx hb dX12_lowers_140 rfl (lv_at hl 2 rfl) ?_
            refine va_get (D := D) (ci := 12) (v := .ref m26) (C := RX12) (T := TX12) (N := 42) hx hb hts iT_X12 hown hK hP 2 rfl rfl 26 (by decide) (hts _ tw_6_79) (fun _ h9 => h9) rfl dX12_lowers_141 ?_
            refine lv_iload hx hb dX12_lowers_144 (lv_at hl 0 rfl) ?_
            refine va_iald hx hb hK hP 1 0 rfl rfl (z_in (by omega) (by omega)) dX12_lowers_146 ?_
            refine lv_topi (fun x_39 ex_39 => ?_)
            obtain rfl : x_27 = x_39 := ex_27.trans ex_39.symm
            refine lv_aload_n hx hb dX12_lowers_147 rfl (lv_at hl 2 rfl) ?_
            refine lv_iload hx hb dX12_lowers_148 (lv_at hl 6 rfl) ?_
            refine lv_iload_n hx hb dX12_lowers_150 rfl (lv_at hl 4 rfl) ?_
            have hPc := hP.sub (ws' := [(mo, .inr (12, [.int v0, .ref m1, .ref m2, .ref m3, .ref m4, .ref m5, .int v6, .int v7, .int v8, .int v9, .int v10, .long v11, .int v12, .int v13, .int v14, .int v15, .ref m16, .ref m17, .ref m18, .ref m19, .ref m20, .ref m21, .ref m22, .ref m23, .int v24, .ref m25, .ref m26, .ref m27, .ref m28, .ref m29, .int v30, .ref m31, .ref m32, .ref m33, .int v34, .int v35, .int v36, .ref m37, .ref m38, .ref m39, .ref m40, .long v41])), (m18, .inl (k 0, 250, .inl f18))]) [2, 3] rfl
            have hDc := hD.sub (ws' := [(mo, .inr (12, [.int v0, .ref m1, .ref m2, .ref m3, .ref m4, .ref m5, .int v6, .int v7, .int v8, .int v9, .int v10, .long v11, .int v12, .int v13, .int v14, .int v15, .ref m16, .ref m17, .ref m18, .ref m19, .ref m20, .ref m21, .ref m22, .ref m23, .int v24, .ref m25, .ref m26, .ref m27, .ref m28, .ref m29, .int v30, .ref m31, .ref m32, .ref m33, .int v34, .int v35, .int v36, .ref m37, .ref m38, .ref m39, .ref m40, .long v41])), (m18, .inl (k 0, 250, .inl f18))]) [2, 3] (by decide) rfl
            have hFc := va_free (wc := [(mo, .inr (12, [.int v0, .ref m1, .ref m2, .ref m3, .ref m4, .ref m5, .int v6, .int v7, .int v8, .int v9, .int v10, .long v11, .int v12, .int v13, .int v14, .int v15, .ref m16, .ref m17, .ref m18, .ref m19, .ref m20, .ref m21, .ref m22, .ref m23, .int v24, .ref m25, .ref m26, .ref m27, .ref m28, .ref m29, .int v30, .ref m31, .ref m32, .ref m33, .int v34, .int v35, .int v36, .ref m37, .ref m38, .ref m39, .ref m40, .long v41])), (m18, .inl (k 0, 250, .inl f18))]) hD hS hA [2, 3] rfl
            refine va_calli (va_runV (C := RX12) (As := [.int L15l4, .int p1]) (rest := [.int x_27, .int x_16, .ref m26]) ⟨hx, hb, hml, hown, hts⟩ (c_X12_takes_ l D k mo L15l4 p1 v0 m1 m2 m3 m4 m5 v6 v7 v8 v9 v10 v11 v12 v13 v14 v15 m16 m17 m18 m19 m20 m21 m22 m23 v24 m25 m26 m27 m28 m29 v30 m31 m32 m33 v34 v35 v36 m37 m38 m39 m40 v41 f18 H.size (show 0 ≤ L15l4.toInt ∧ L15l4.toInt ≤ 9 from by omega) (show 0 ≤ v6.toInt ∧ v6.toInt ≤ 1000 from by omega) (show 0 ≤ v24.toInt ∧ v24.toInt ≤ 1023 from by omega) hp_f18_0 hp_f18_1 hp_f18_2 hp_f18_3) (cwV 2 hts (gV tw_7_157 tw_7_159 tw_p_68 tw_1_13 tw_7_160) rfl rfl rfl hdV_X12_takes_ ⟨Nat.le_of_ble_eq_true rfl, Nat.le_of_ble_eq_true rfl⟩) (cz_V hK hPc hDc hN (ci := 12) (q0 := 0) rfl rfl [.int L15l4, .int p1]) rfl rfl hl.1 rfl (lv_room (Nat.le_of_ble_eq_true rfl)) dX12_lowers_151 ⟨Nat.le_of_ble_eq_true rfl, Nat.le_of_ble_eq_true rfl⟩) hS (fun q _ h => hFc q h) hFc (fun r_40 uZ tZ H1 locs ht hvm hw hB hz1 hk1 hS => ?_)
            obtain ⟨hP1, hK1, hD1⟩ := hB
            rw [ht] at hP1
            obtain ⟨hP, hD⟩ := va_join (wr := [(m17, .inl (k 0, 30, .inl f17)), (m26, .inl (k 0, 8, .inl L15a3))]) (w1 := [(mo, .inr (12, [.int v0, .ref m1, .ref m2, .ref m3, .ref m4, .ref m5, .int v6, .int v7, .int v8, .int v9, .int v10, .long v11, .int v12, .int v13, .int v14, .int v15, .ref m16, .ref m17, .ref m18, .ref m19, .ref m20, .ref m21, .ref m22, .ref m23, .int v24, .ref m25, .ref m26, .ref m27, .ref m28, .ref m29, .int v30, .ref m31, .ref m32, .ref m33, .int v34, .int v35, .int v36, .ref m37, .ref m38, .ref m39, .ref m40, .long v41])), (m18, .inl (k 0, 250, .inl f18))]) hP hD [2, 3] [0, 1] rfl rfl (by decide) (by decide) hk1 hFc hP1 hD1
            clear hK1 hP1 hD1 hPc hDc hFc
            clear hk1 hz1 ht hvm
            have hP : va_P D vwCl [(m17, .inl (k 0, 30, .inl f17)), (m26, .inl (k 0, 8, .inl L15a3)), (mo, .inr (12, [.int v0, .ref m1, .ref m2, .ref m3, .ref m4, .ref m5, .int v6, .int v7, .int v8, .int v9, .int v10, .long v11, .int v12, .int v13, .int v14, .int v15, .ref m16, .ref m17, .ref m18, .ref m19, .ref m20, .ref m21, .ref m22, .ref m23, .int v24, .ref m25, .ref m26, .ref m27, .ref m28, .ref m29, .int v30, .ref m31, .ref m32, .ref m33, .int v34, .int v35, .int v36, .ref m37, .ref m38, .ref m39, .ref m40, .long v41])), (m18, .inl (k 0, 250, .inl f18))] H1 := hP
            have hD : va_D A [(m17, .inl (k 0, 30, .inl f17)), (m26, .inl (k 0, 8, .inl L15a3)), (mo, .inr (12, [.int v0, .ref m1, .ref m2, .ref m3, .ref m4, .ref m5, .int v6, .int v7, .int v8, .int v9, .int v10, .long v11, .int v12, .int v13, .int v14, .int v15, .ref m16, .ref m17, .ref m18, .ref m19, .ref m20, .ref m21, .ref m22, .ref m23, .int v24, .ref m25, .ref m26, .ref m27, .ref m28, .ref m29, .int v30, .ref m31, .ref m32, .ref m33, .int v34, .int v35, .int v36, .ref m37, .ref m38, .ref m39, .ref m40, .long v41])), (m18, .inl (k 0, 250, .inl f18))] := hD
            generalize H1 = H at hP hS ⊢
            have hw_41 : (0 ≤ r_40.toInt ∧ r_40.toInt ≤ 70) ∧ (r_40 = takesOf f18 L15l4 p1) ∧ ((f18 (5 * L15l4 + 2).toNatClampNeg).toInt ≤ r_40.toInt) := hw
            obtain ⟨hw_42, hw_43, hw_44⟩ := hw_41
            clear hw
            obtain rfl : r_21 = r_40 := hw_24.trans hw_43.symm
            refine lv_iadd hx hb dX12_lowers_154 ?_
            refine lv_topi (fun x_45 ex_45 => ?_)
            obtain rfl : x_35 = x_45 := ex_35.trans ex_45.symm
            refine va_iast hx hb hK hP hD hS 1 0 rfl rfl (z_in (by omega) (by omega)) dX12_lowers_155 (fun H locs hP hD hS => ?_)
            obtain ⟨g_46, eg_46⟩ : ∃ z : Nat → Int32, upd L15a3 x_16.toNatClampNeg x_35 = z := ⟨_, rfl⟩
            have hP : va_P D vwCl [(m17, .inl (k 0, 30, .inl f17)), (m26, .inl (k 0, 8, .inl (upd L15a3 x_16.toNatClampNeg x_35))), (mo, .inr (12, [.int v0, .ref m1, .ref m2, .ref m3, .ref m4, .ref m5, .int v6, .int v7, .int v8, .int v9, .int v10, .long v11, .int v12, .int v13, .int v14, .int v15, .ref m16, .ref m17, .ref m18, .ref m19, .ref m20, .ref m21, .ref m22, .ref m23, .int v24, .ref m25, .ref m26, .ref m27, .ref m28, .ref m29, .int v30, .ref m31, .ref m32, .ref m33, .int v34, .int v35, .int v36, .ref m37, .ref m38, .ref m39, .ref m40, .long v41])), (m18, .inl (k 0, 250, .inl f18))] H := hP
            have hD : va_D A [(m17, .inl (k 0, 30, .inl f17)), (m26, .inl (k 0, 8, .inl (upd L15a3 x_16.toNatClampNeg x_35))), (mo, .inr (12, [.int v0, .ref m1, .ref m2, .ref m3, .ref m4, .ref m5, .int v6, .int v7, .int v8, .int v9, .int v10, .long v11, .int v12, .int v13, .int v14, .int v15, .ref m16, .ref m17, .ref m18, .ref m19, .ref m20, .ref m21, .ref m22, .ref m23, .int v24, .ref m25, .ref m26, .ref m27, .ref m28, .ref m29, .int v30, .ref m31, .ref m32, .ref m33, .int v34, .int v35, .int v36, .ref m37, .ref m38, .ref m39, .ref m40, .long v41])), (m18, .inl (k 0, 250, .inl f18))] := hD
            rw [eg_46] at hP hD
            have hp_47 : PR 8 1 0 0 100000 g_46 := by rw [← eg_46]; exact PR.put L15a3h0 ⟨by omega, by omega⟩
            obtain ⟨x_48, ex_48⟩ : ∃ y : Int32, y = L15l4 + 1 := ⟨_, rfl⟩
            have zx_48 : x_48.toInt = L15l4.toInt + 1 := by rw [ex_48]; exact z_add rfl rfl (by omega) (by omega)
            refine lv_iinc (v := x_48) (lv' := [(4, .int x_48), (6, .int x_19), (5, .int x_16), (0, .ref mo), (1, .int p0), (2, .int p1), (3, .int L2l3)]) hx hb dX12_lowers_156 hl (k := 6) rfl (by rw [ex_48]; rfl) (by decide) rfl (fun ls hl => ?_)
            refine lv_goto (tgt := 15) hx hb dX12_lowers_159 (by decide) ?_
            exact ih_5 _ _ _ _ (by omega) ⟨x_48, g_46, rfl, (show 0 ≤ x_48.toInt ∧ x_48.toInt ≤ 10 from by omega), hp_47, hP.sub (ws' := [(mo, .inr (12, [.int v0, .ref m1, .ref m2, .ref m3, .ref m4, .ref m5, .int v6, .int v7, .int v8, .int v9, .int v10, .long v11, .int v12, .int v13, .int v14, .int v15, .ref m16, .ref m17, .ref m18, .ref m19, .ref m20, .ref m21, .ref m22, .ref m23, .int v24, .ref m25, .ref m26, .ref m27, .ref m28, .ref m29, .int v30, .ref m31, .ref m32, .ref m33, .int v34, .int v35, .int v36, .ref m37, .ref m38, .ref m39, .ref m40, .long v41])), (m17, .inl (k 0, 30, .inl f17)), (m18, .inl (k 0, 250, .inl f18)), (m26, .inl (k 0, 8, .inl g_46))]) [2, 0, 3, 1] rfl, hD.sub (ws' := [(mo, .inr (12, [.int v0, .ref m1, .ref m2, .ref m3, .ref m4, .ref m5, .int v6, .int v7, .int v8, .int v9, .int v10, .long v11, .int v12, .int v13, .int v14, .int v15, .ref m16, .ref m17, .ref m18, .ref m19, .ref m20, .ref m21, .ref m22, .ref m23, .int v24, .ref m25, .ref m26, .ref m27, .ref m28, .ref m29, .int v30, .ref m31, .ref m32, .ref m33, .int v34, .int v35, .int v36, .ref m37, .ref m38, .ref m39, .ref m40, .long v41])), (m17, .inl (k 0, 30, .inl f17)), (m18, .inl (k 0, 250, .inl f18)), (m26, .inl (k 0, 8, .inl g_46))]) [2, 0, 3, 1] (by decide) rfl, hS, lv_sub hl [3, 4, 5, 6, 0] rfl⟩
        · skip
          have zh_28 : x_26.toInt < x_27.toInt := z_nle h_28
          refine lv_aload_n hx hb dX12_lowers_87 rfl (lv_at hl 2 rfl) ?_
          refine va_get (D := D) (ci := 12) (v := .ref m26) (C := RX12) (T := TX12) (N := 42) hx hb hts iT_X12 hown hK hP 2 rfl rfl 26 (by decide) (hts _ tw_6_79) (fun _ h9 => h9) rfl dX12_lowers_88 ?_
          refine lv_iload hx hb dX12_lowers_91 (lv_at hl 0 rfl) ?_
          refine lv_aload_n hx hb dX12_lowers_93 rfl (lv_at hl 2 rfl) ?_
          refine va_get (D := D) (ci := 12) (v := .ref m26) (C := RX12) (T := TX12) (N := 42) hx hb hts iT_X12 hown hK hP 2 rfl rfl 26 (by decide) (hts _ tw_6_79) (fun _ h9 => h9) rfl dX12_lowers_94 ?_
          refine lv_iload hx hb dX12_lowers_97 (lv_at hl 1 rfl) ?_
          refine va_iald hx hb hK hP 1 0 rfl rfl (z_in (by omega) (by omega)) dX12_lowers_99 ?_
          refine lv_topi (fun x_49 ex_49 => ?_)
          obtain rfl : x_20 = x_49 := ex_20.trans ex_49.symm
          refine lv_aload_n hx hb dX12_lowers_100 rfl (lv_at hl 2 rfl) ?_
          refine lv_iload hx hb dX12_lowers_101 (lv_at hl 6 rfl) ?_
          refine lv_iload_n hx hb dX12_lowers_103 rfl (lv_at hl 4 rfl) ?_
          have hPc := hP.sub (ws' := [(mo, .inr (12, [.int v0, .ref m1, .ref m2, .ref m3, .ref m4, .ref m5, .int v6, .int v7, .int v8, .int v9, .int v10, .long v11, .int v12, .int v13, .int v14, .int v15, .ref m16, .ref m17, .ref m18, .ref m19, .ref m20, .ref m21, .ref m22, .ref m23, .int v24, .ref m25, .ref m26, .ref m27, .ref m28, .ref m29, .int v30, .ref m31, .ref m32, .ref m33, .int v34, .int v35, .int v36, .ref m37, .ref m38, .ref m39, .ref m40, .long v41])), (m18, .inl (k 0, 250, .inl f18))]) [2, 3] rfl
          have hDc := hD.sub (ws' := [(mo, .inr (12, [.int v0, .ref m1, .ref m2, .ref m3, .ref m4, .ref m5, .int v6, .int v7, .int v8, .int v9, .int v10, .long v11, .int v12, .int v13, .int v14, .int v15, .ref m16, .ref m17, .ref m18, .ref m19, .ref m20, .ref m21, .ref m22, .ref m23, .int v24, .ref m25, .ref m26, .ref m27, .ref m28, .ref m29, .int v30, .ref m31, .ref m32, .ref m33, .int v34, .int v35, .int v36, .ref m37, .ref m38, .ref m39, .ref m40, .long v41])), (m18, .inl (k 0, 250, .inl f18))]) [2, 3] (by decide) rfl
          have hFc := va_free (wc := [(mo, .inr (12, [.int v0, .ref m1, .ref m2, .ref m3, .ref m4, .ref m5, .int v6, .int v7, .int v8, .int v9, .int v10, .long v11, .int v12, .int v13, .int v14, .int v15, .ref m16, .ref m17, .ref m18, .ref m19, .ref m20, .ref m21, .ref m22, .ref m23, .int v24, .ref m25, .ref m26, .ref m27, .ref m28, .ref m29, .int v30, .ref m31, .ref m32, .ref m33, .int v34, .int v35, .int v36, .ref m37, .ref m38, .ref m39, .ref m40, .long v41])), (m18, .inl (k 0, 250, .inl f18))]) hD hS hA [2, 3] rfl
          refine va_calli (va_runV (C := RX12) (As := [.int L15l4, .int p1]) (rest := [.int x_20, .int x_19, .ref m26]) ⟨hx, hb, hml, hown, hts⟩ (c_X12_takes_ l D k mo L15l4 p1 v0 m1 m2 m3 m4 m5 v6 v7 v8 v9 v10 v11 v12 v13 v14 v15 m16 m17 m18 m19 m20 m21 m22 m23 v24 m25 m26 m27 m28 m29 v30 m31 m32 m33 v34 v35 v36 m37 m38 m39 m40 v41 f18 H.size (show 0 ≤ L15l4.toInt ∧ L15l4.toInt ≤ 9 from by omega) (show 0 ≤ v6.toInt ∧ v6.toInt ≤ 1000 from by omega) (show 0 ≤ v24.toInt ∧ v24.toInt ≤ 1023 from by omega) hp_f18_0 hp_f18_1 hp_f18_2 hp_f18_3) (cwV 2 hts (gV tw_7_157 tw_7_159 tw_p_68 tw_1_13 tw_7_160) rfl rfl rfl hdV_X12_takes_ ⟨Nat.le_of_ble_eq_true rfl, Nat.le_of_ble_eq_true rfl⟩) (cz_V hK hPc hDc hN (ci := 12) (q0 := 0) rfl rfl [.int L15l4, .int p1]) rfl rfl hl.1 rfl (lv_room (Nat.le_of_ble_eq_true rfl)) dX12_lowers_104 ⟨Nat.le_of_ble_eq_true rfl, Nat.le_of_ble_eq_true rfl⟩) hS (fun q _ h => hFc q h) hFc (fun r_50 uZ tZ H1 locs ht hvm hw hB hz1 hk1 hS => ?_)
          obtain ⟨hP1, hK1, hD1⟩ := hB
          rw [ht] at hP1
          obtain ⟨hP, hD⟩ := va_join (wr := [(m17, .inl (k 0, 30, .inl f17)), (m26, .inl (k 0, 8, .inl L15a3))]) (w1 := [(mo, .inr (12, [.int v0, .ref m1, .ref m2, .ref m3, .ref m4, .ref m5, .int v6, .int v7, .int v8, .int v9, .int v10, .long v11, .int v12, .int v13, .int v14, .int v15, .ref m16, .ref m17, .ref m18, .ref m19, .ref m20, .ref m21, .ref m22, .ref m23, .int v24, .ref m25, .ref m26, .ref m27, .ref m28, .ref m29, .int v30, .ref m31, .ref m32, .ref m33, .int v34, .int v35, .int v36, .ref m37, .ref m38, .ref m39, .ref m40, .long v41])), (m18, .inl (k 0, 250, .inl f18))]) hP hD [2, 3] [0, 1] rfl rfl (by decide) (by decide) hk1 hFc hP1 hD1
          clear hK1 hP1 hD1 hPc hDc hFc
          clear hk1 hz1 ht hvm
          have hP : va_P D vwCl [(m17, .inl (k 0, 30, .inl f17)), (m26, .inl (k 0, 8, .inl L15a3)), (mo, .inr (12, [.int v0, .ref m1, .ref m2, .ref m3, .ref m4, .ref m5, .int v6, .int v7, .int v8, .int v9, .int v10, .long v11, .int v12, .int v13, .int v14, .int v15, .ref m16, .ref m17, .ref m18, .ref m19, .ref m20, .ref m21, .ref m22, .ref m23, .int v24, .ref m25, .ref m26, .ref m27, .ref m28, .ref m29, .int v30, .ref m31, .ref m32, .ref m33, .int v34, .int v35, .int v36, .ref m37, .ref m38, .ref m39, .ref m40, .long v41])), (m18, .inl (k 0, 250, .inl f18))] H1 := hP
          have hD : va_D A [(m17, .inl (k 0, 30, .inl f17)), (m26, .inl (k 0, 8, .inl L15a3)), (mo, .inr (12, [.int v0, .ref m1, .ref m2, .ref m3, .ref m4, .ref m5, .int v6, .int v7, .int v8, .int v9, .int v10, .long v11, .int v12, .int v13, .int v14, .int v15, .ref m16, .ref m17, .ref m18, .ref m19, .ref m20, .ref m21, .ref m22, .ref m23, .int v24, .ref m25, .ref m26, .ref m27, .ref m28, .ref m29, .int v30, .ref m31, .ref m32, .ref m33, .int v34, .int v35, .int v36, .ref m37, .ref m38, .ref m39, .ref m40, .long v41])), (m18, .inl (k 0, 250, .inl f18))] := hD
          generalize H1 = H at hP hS ⊢
          have hw_51 : (0 ≤ r_50.toInt ∧ r_50.toInt ≤ 70) ∧ (r_50 = takesOf f18 L15l4 p1) ∧ ((f18 (5 * L15l4 + 2).toNatClampNeg).toInt ≤ r_50.toInt) := hw
          obtain ⟨hw_52, hw_53, hw_54⟩ := hw_51
          clear hw
          obtain rfl : r_21 = r_50 := hw_24.trans hw_53.symm
          refine lv_iadd hx hb dX12_lowers_107 ?_
          refine lv_topi (fun x_55 ex_55 => ?_)
          obtain rfl : x_26 = x_55 := ex_26.trans ex_55.symm
          refine va_iast hx hb hK hP hD hS 1 0 rfl rfl (z_in (by omega) (by omega)) dX12_lowers_108 (fun H locs hP hD hS => ?_)
          obtain ⟨g_56, eg_56⟩ : ∃ z : Nat → Int32, upd L15a3 x_19.toNatClampNeg x_26 = z := ⟨_, rfl⟩
          have hP : va_P D vwCl [(m17, .inl (k 0, 30, .inl f17)), (m26, .inl (k 0, 8, .inl (upd L15a3 x_19.toNatClampNeg x_26))), (mo, .inr (12, [.int v0, .ref m1, .ref m2, .ref m3, .ref m4, .ref m5, .int v6, .int v7, .int v8, .int v9, .int v10, .long v11, .int v12, .int v13, .int v14, .int v15, .ref m16, .ref m17, .ref m18, .ref m19, .ref m20, .ref m21, .ref m22, .ref m23, .int v24, .ref m25, .ref m26, .ref m27, .ref m28, .ref m29, .int v30, .ref m31, .ref m32, .ref m33, .int v34, .int v35, .int v36, .ref m37, .ref m38, .ref m39, .ref m40, .long v41])), (m18, .inl (k 0, 250, .inl f18))] H := hP
          have hD : va_D A [(m17, .inl (k 0, 30, .inl f17)), (m26, .inl (k 0, 8, .inl (upd L15a3 x_19.toNatClampNeg x_26))), (mo, .inr (12, [.int v0, .ref m1, .ref m2, .ref m3, .ref m4, .ref m5, .int v6, .int v7, .int v8, .int v9, .int v10, .long v11, .int v12, .int v13, .int v14, .int v15, .ref m16, .ref m17, .ref m18, .ref m19, .ref m20, .ref m21, .ref m22, .ref m23, .int v24, .ref m25, .ref m26, .ref m27, .ref m28, .ref m29, .int v30, .ref m31, .ref m32, .ref m33, .int v34, .int v35, .int v36, .ref m37, .ref m38, .ref m39, .ref m40, .long v41])), (m18, .inl (k 0, 250, .inl f18))] := hD
          rw [eg_56] at hP hD
          have hp_57 : PR 8 1 0 0 100000 g_56 := by rw [← eg_56]; exact PR.put L15a3h0 ⟨by omega, by omega⟩
          refine lv_aload_n hx hb dX12_lowers_109 rfl (lv_at hl 2 rfl) ?_
          refine va_get (D := D) (ci := 12) (v := .ref m26) (C := RX12) (T := TX12) (N := 42) hx hb hts iT_X12 hown hK hP 2 rfl rfl 26 (by decide) (hts _ tw_6_79) (fun _ h9 => h9) rfl dX12_lowers_110 ?_
          refine lv_iload hx hb dX12_lowers_113 (lv_at hl 0 rfl) ?_
          refine va_iald hx hb hK hP 1 0 rfl rfl (z_in (by omega) (by omega)) dX12_lowers_115 ?_
          refine lv_topi (fun x_58 ex_58 => ?_)
          obtain rfl : x_26 = x_58 := ((ex_58.trans (by rw [← eg_56]; exact pk_us))).symm
          refine lv_aload_n hx hb dX12_lowers_116 rfl (lv_at hl 2 rfl) ?_
          refine lv_iload hx hb dX12_lowers_117 (lv_at hl 6 rfl) ?_
          refine lv_iload_n hx hb dX12_lowers_119 rfl (lv_at hl 4 rfl) ?_
          have hPc := hP.sub (ws' := [(mo, .inr (12, [.int v0, .ref m1, .ref m2, .ref m3, .ref m4, .ref m5, .int v6, .int v7, .int v8, .int v9, .int v10, .long v11, .int v12, .int v13, .int v14, .int v15, .ref m16, .ref m17, .ref m18, .ref m19, .ref m20, .ref m21, .ref m22, .ref m23, .int v24, .ref m25, .ref m26, .ref m27, .ref m28, .ref m29, .int v30, .ref m31, .ref m32, .ref m33, .int v34, .int v35, .int v36, .ref m37, .ref m38, .ref m39, .ref m40, .long v41])), (m18, .inl (k 0, 250, .inl f18))]) [2, 3] rfl
          have hDc := hD.sub (ws' := [(mo, .inr (12, [.int v0, .ref m1, .ref m2, .ref m3, .ref m4, .ref m5, .int v6, .int v7, .int v8, .int v9, .int v10, .long v11, .int v12, .int v13, .int v14, .int v15, .ref m16, .ref m17, .ref m18, .ref m19, .ref m20, .ref m21, .ref m22, .ref m23, .int v24, .ref m25, .ref m26, .ref m27, .ref m28, .ref m29, .int v30, .ref m31, .ref m32, .ref m33, .int v34, .int v35, .int v36, .ref m37, .ref m38, .ref m39, .ref m40, .long v41])), (m18, .inl (k 0, 250, .inl f18))]) [2, 3] (by decide) rfl
          have hFc := va_free (wc := [(mo, .inr (12, [.int v0, .ref m1, .ref m2, .ref m3, .ref m4, .ref m5, .int v6, .int v7, .int v8, .int v9, .int v10, .long v11, .int v12, .int v13, .int v14, .int v15, .ref m16, .ref m17, .ref m18, .ref m19, .ref m20, .ref m21, .ref m22, .ref m23, .int v24, .ref m25, .ref m26, .ref m27, .ref m28, .ref m29, .int v30, .ref m31, .ref m32, .ref m33, .int v34, .int v35, .int v36, .ref m37, .ref m38, .ref m39, .ref m40, .long v41])), (m18, .inl (k 0, 250, .inl f18))]) hD hS hA [2, 3] rfl
          refine va_calli (va_runV (C := RX12) (As := [.int L15l4, .int p1]) (rest := [.int x_26]) ⟨hx, hb, hml, hown, hts⟩ (c_X12_takes_ l D k mo L15l4 p1 v0 m1 m2 m3 m4 m5 v6 v7 v8 v9 v10 v11 v12 v13 v14 v15 m16 m17 m18 m19 m20 m21 m22 m23 v24 m25 m26 m27 m28 m29 v30 m31 m32 m33 v34 v35 v36 m37 m38 m39 m40 v41 f18 H.size (show 0 ≤ L15l4.toInt ∧ L15l4.toInt ≤ 9 from by omega) (show 0 ≤ v6.toInt ∧ v6.toInt ≤ 1000 from by omega) (show 0 ≤ v24.toInt ∧ v24.toInt ≤ 1023 from by omega) hp_f18_0 hp_f18_1 hp_f18_2 hp_f18_3) (cwV 2 hts (gV tw_7_157 tw_7_159 tw_p_68 tw_1_13 tw_7_160) rfl rfl rfl hdV_X12_takes_ ⟨Nat.le_of_ble_eq_true rfl, Nat.le_of_ble_eq_true rfl⟩) (cz_V hK hPc hDc hN (ci := 12) (q0 := 0) rfl rfl [.int L15l4, .int p1]) rfl rfl hl.1 rfl (lv_room (Nat.le_of_ble_eq_true rfl)) dX12_lowers_120 ⟨Nat.le_of_ble_eq_true rfl, Nat.le_of_ble_eq_true rfl⟩) hS (fun q _ h => hFc q h) hFc (fun r_59 uZ tZ H1 locs ht hvm hw hB hz1 hk1 hS => ?_)
          obtain ⟨hP1, hK1, hD1⟩ := hB
          rw [ht] at hP1
          obtain ⟨hP, hD⟩ := va_join (wr := [(m17, .inl (k 0, 30, .inl f17)), (m26, .inl (k 0, 8, .inl g_56))]) (w1 := [(mo, .inr (12, [.int v0, .ref m1, .ref m2, .ref m3, .ref m4, .ref m5, .int v6, .int v7, .int v8, .int v9, .int v10, .long v11, .int v12, .int v13, .int v14, .int v15, .ref m16, .ref m17, .ref m18, .ref m19, .ref m20, .ref m21, .ref m22, .ref m23, .int v24, .ref m25, .ref m26, .ref m27, .ref m28, .ref m29, .int v30, .ref m31, .ref m32, .ref m33, .int v34, .int v35, .int v36, .ref m37, .ref m38, .ref m39, .ref m40, .long v41])), (m18, .inl (k 0, 250, .inl f18))]) hP hD [2, 3] [0, 1] rfl rfl (by decide) (by decide) hk1 hFc hP1 hD1
          clear hK1 hP1 hD1 hPc hDc hFc
          clear hk1 hz1 ht hvm
          have hP : va_P D vwCl [(m17, .inl (k 0, 30, .inl f17)), (m26, .inl (k 0, 8, .inl g_56)), (mo, .inr (12, [.int v0, .ref m1, .ref m2, .ref m3, .ref m4, .ref m5, .int v6, .int v7, .int v8, .int v9, .int v10, .long v11, .int v12, .int v13, .int v14, .int v15, .ref m16, .ref m17, .ref m18, .ref m19, .ref m20, .ref m21, .ref m22, .ref m23, .int v24, .ref m25, .ref m26, .ref m27, .ref m28, .ref m29, .int v30, .ref m31, .ref m32, .ref m33, .int v34, .int v35, .int v36, .ref m37, .ref m38, .ref m39, .ref m40, .long v41])), (m18, .inl (k 0, 250, .inl f18))] H1 := hP
          have hD : va_D A [(m17, .inl (k 0, 30, .inl f17)), (m26, .inl (k 0, 8, .inl g_56)), (mo, .inr (12, [.int v0, .ref m1, .ref m2, .ref m3, .ref m4, .ref m5, .int v6, .int v7, .int v8, .int v9, .int v10, .long v11, .int v12, .int v13, .int v14, .int v15, .ref m16, .ref m17, .ref m18, .ref m19, .ref m20, .ref m21, .ref m22, .ref m23, .int v24, .ref m25, .ref m26, .ref m27, .ref m28, .ref m29, .int v30, .ref m31, .ref m32, .ref m33, .int v34, .int v35, .int v36, .ref m37, .ref m38, .ref m39, .ref m40, .long v41])), (m18, .inl (k 0, 250, .inl f18))] := hD
          generalize H1 = H at hP hS ⊢
          have hw_60 : (0 ≤ r_59.toInt ∧ r_59.toInt ≤ 70) ∧ (r_59 = takesOf f18 L15l4 p1) ∧ ((f18 (5 * L15l4 + 2).toNatClampNeg).toInt ≤ r_59.toInt) := hw
          obtain ⟨hw_61, hw_62, hw_63⟩ := hw_60
          clear hw
          obtain rfl : r_21 = r_59 := hw_24.trans hw_62.symm
          refine lv_iadd hx hb dX12_lowers_123 ?_
          refine lv_topi (fun x_64 ex_64 => ?_)
          have zx_64 : x_64.toInt = x_26.toInt + r_21.toInt := by rw [ex_64]; exact z_add rfl rfl (by omega) (by omega)
          refine lv_aload_n hx hb dX12_lowers_124 rfl (lv_at hl 2 rfl) ?_
          refine va_get (D := D) (ci := 12) (v := .ref m26) (C := RX12) (T := TX12) (N := 42) hx hb hts iT_X12 hown hK hP 2 rfl rfl 26 (by decide) (hts _ tw_6_79) (fun _ h9 => h9) rfl dX12_lowers_125 ?_
          refine lv_iload hx hb dX12_lowers_128 (lv_at hl 1 rfl) ?_
          refine va_iald hx hb hK hP 1 0 rfl rfl (z_in (by omega) (by omega)) dX12_lowers_130 ?_
          refine lv_topi (fun x_65 ex_65 => ?_)
          have zx_65r0 : 0 ≤ x_65.toInt ∧ x_65.toInt ≤ 100000 := by rw [ex_65]; exact PR.ld hp_57 (by omega) (by omega) (by omega)
          refine lv_icmp_ge (tgt := 156) hx hb dX12_lowers_131 (by decide) (fun h_66 => ?_) (fun h_66 => ?_)
          · skip
            have zh_66 : x_65.toInt ≤ x_64.toInt := z_le h_66
            obtain ⟨x_67, ex_67⟩ : ∃ y : Int32, y = L15l4 + 1 := ⟨_, rfl⟩
            have zx_67 : x_67.toInt = L15l4.toInt + 1 := by rw [ex_67]; exact z_add rfl rfl (by omega) (by omega)
            refine lv_iinc (v := x_67) (lv' := [(4, .int x_67), (6, .int x_19), (5, .int x_16), (0, .ref mo), (1, .int p0), (2, .int p1), (3, .int L2l3)]) hx hb dX12_lowers_156 hl (k := 6) rfl (by rw [ex_67]; rfl) (by decide) rfl (fun ls hl => ?_)
            refine lv_goto (tgt := 15) hx hb dX12_lowers_159 (by decide) ?_
            exact ih_5 _ _ _ _ (by omega) ⟨x_67, g_56, rfl, (show 0 ≤ x_67.toInt ∧ x_67.toInt ≤ 10 from by omega), hp_57, hP.sub (ws' := [(mo, .inr (12, [.int v0, .ref m1, .ref m2, .ref m3, .ref m4, .ref m5, .int v6, .int v7, .int v8, .int v9, .int v10, .long v11, .int v12, .int v13, .int v14, .int v15, .ref m16, .ref m17, .ref m18, .ref m19, .ref m20, .ref m21, .ref m22, .ref m23, .int v24, .ref m25, .ref m26, .ref m27, .ref m28, .ref m29, .int v30, .ref m31, .ref m32, .ref m33, .int v34, .int v35, .int v36, .ref m37, .ref m38, .ref m39, .ref m40, .long v41])), (m17, .inl (k 0, 30, .inl f17)), (m18, .inl (k 0, 250, .inl f18)), (m26, .inl (k 0, 8, .inl g_56))]) [2, 0, 3, 1] rfl, hD.sub (ws' := [(mo, .inr (12, [.int v0, .ref m1, .ref m2, .ref m3, .ref m4, .ref m5, .int v6, .int v7, .int v8, .int v9, .int v10, .long v11, .int v12, .int v13, .int v14, .int v15, .ref m16, .ref m17, .ref m18, .ref m19, .ref m20, .ref m21, .ref m22, .ref m23, .int v24, .ref m25, .ref m26, .ref m27, .ref m28, .ref m29, .int v30, .ref m31, .ref m32, .ref m33, .int v34, .int v35, .int v36, .ref m37, .ref m38, .ref m39, .ref m40, .long v41])), (m17, .inl (k 0, 30, .inl f17)), (m18, .inl (k 0, 250, .inl f18)), (m26, .inl (k 0, 8, .inl g_56))]) [2, 0, 3, 1] (by decide) rfl, hS, lv_sub hl [3, 4, 5, 6, 0] rfl⟩
          · skip
            have zh_66 : x_64.toInt < x_65.toInt := z_nle h_66
            refine lv_aload_n hx hb dX12_lowers_134 rfl (lv_at hl 2 rfl) ?_
            refine va_get (D := D) (ci := 12) (v := .ref m26) (C := RX12) (T := TX12) (N := 42) hx hb hts iT_X12 hown hK hP 2 rfl rfl 26 (by decide) (hts _ tw_6_79) (fun _ h9 => h9) rfl dX12_lowers_135 ?_
            refine lv_iload hx hb dX12_lowers_138 (lv_at hl 1 rfl) ?_
            refine lv_aload_n hx hb dX12_lowers_140 rfl (lv_at hl 2 rfl) ?_
            refine va_get (D := D) (ci := 12) (v := .ref m26) (C := RX12) (T := TX12) (N := 42) hx hb hts iT_X12 hown hK hP 2 rfl rfl 26 (by decide) (hts _ tw_6_79) (fun _ h9 => h9) rfl dX12_lowers_141 ?_
            refine lv_iload hx hb dX12_lowers_144 (lv_at hl 0 rfl) ?_
            refine va_iald hx hb hK hP 1 0 rfl rfl (z_in (by omega) (by omega)) dX12_lowers_146 ?_
            refine lv_topi (fun x_68 ex_68 => ?_)
            obtain rfl : x_26 = x_68 := ((ex_68.trans (by rw [← eg_56]; exact pk_us))).symm
            refine lv_aload_n hx hb dX12_lowers_147 rfl (lv_at hl 2 rfl) ?_
            refine lv_iload hx hb dX12_lowers_148 (lv_at hl 6 rfl) ?_
            refine lv_iload_n hx hb dX12_lowers_150 rfl (lv_at hl 4 rfl) ?_
            have hPc := hP.sub (ws' := [(mo, .inr (12, [.int v0, .ref m1, .ref m2, .ref m3, .ref m4, .ref m5, .int v6, .int v7, .int v8, .int v9, .int v10, .long v11, .int v12, .int v13, .int v14, .int v15, .ref m16, .ref m17, .ref m18, .ref m19, .ref m20, .ref m21, .ref m22, .ref m23, .int v24, .ref m25, .ref m26, .ref m27, .ref m28, .ref m29, .int v30, .ref m31, .ref m32, .ref m33, .int v34, .int v35, .int v36, .ref m37, .ref m38, .ref m39, .ref m40, .long v41])), (m18, .inl (k 0, 250, .inl f18))]) [2, 3] rfl
            have hDc := hD.sub (ws' := [(mo, .inr (12, [.int v0, .ref m1, .ref m2, .ref m3, .ref m4, .ref m5, .int v6, .int v7, .int v8, .int v9, .int v10, .long v11, .int v12, .int v13, .int v14, .int v15, .ref m16, .ref m17, .ref m18, .ref m19, .ref m20, .ref m21, .ref m22, .ref m23, .int v24, .ref m25, .ref m26, .ref m27, .ref m28, .ref m29, .int v30, .ref m31, .ref m32, .ref m33, .int v34, .int v35, .int v36, .ref m37, .ref m38, .ref m39, .ref m40, .long v41])), (m18, .inl (k 0, 250, .inl f18))]) [2, 3] (by decide) rfl
            have hFc := va_free (wc := [(mo, .inr (12, [.int v0, .ref m1, .ref m2, .ref m3, .ref m4, .ref m5, .int v6, .int v7, .int v8, .int v9, .int v10, .long v11, .int v12, .int v13, .int v14, .int v15, .ref m16, .ref m17, .ref m18, .ref m19, .ref m20, .ref m21, .ref m22, .ref m23, .int v24, .ref m25, .ref m26, .ref m27, .ref m28, .ref m29, .int v30, .ref m31, .ref m32, .ref m33, .int v34, .int v35, .int v36, .ref m37, .ref m38, .ref m39, .ref m40, .long v41])), (m18, .inl (k 0, 250, .inl f18))]) hD hS hA [2, 3] rfl
            refine va_calli (va_runV (C := RX12) (As := [.int L15l4, .int p1]) (rest := [.int x_26, .int x_16, .ref m26]) ⟨hx, hb, hml, hown, hts⟩ (c_X12_takes_ l D k mo L15l4 p1 v0 m1 m2 m3 m4 m5 v6 v7 v8 v9 v10 v11 v12 v13 v14 v15 m16 m17 m18 m19 m20 m21 m22 m23 v24 m25 m26 m27 m28 m29 v30 m31 m32 m33 v34 v35 v36 m37 m38 m39 m40 v41 f18 H.size (show 0 ≤ L15l4.toInt ∧ L15l4.toInt ≤ 9 from by omega) (show 0 ≤ v6.toInt ∧ v6.toInt ≤ 1000 from by omega) (show 0 ≤ v24.toInt ∧ v24.toInt ≤ 1023 from by omega) hp_f18_0 hp_f18_1 hp_f18_2 hp_f18_3) (cwV 2 hts (gV tw_7_157 tw_7_159 tw_p_68 tw_1_13 tw_7_160) rfl rfl rfl hdV_X12_takes_ ⟨Nat.le_of_ble_eq_true rfl, Nat.le_of_ble_eq_true rfl⟩) (cz_V hK hPc hDc hN (ci := 12) (q0 := 0) rfl rfl [.int L15l4, .int p1]) rfl rfl hl.1 rfl (lv_room (Nat.le_of_ble_eq_true rfl)) dX12_lowers_151 ⟨Nat.le_of_ble_eq_true rfl, Nat.le_of_ble_eq_true rfl⟩) hS (fun q _ h => hFc q h) hFc (fun r_69 uZ tZ H1 locs ht hvm hw hB hz1 hk1 hS => ?_)
            obtain ⟨hP1, hK1, hD1⟩ := hB
            rw [ht] at hP1
            obtain ⟨hP, hD⟩ := va_join (wr := [(m17, .inl (k 0, 30, .inl f17)), (m26, .inl (k 0, 8, .inl g_56))]) (w1 := [(mo, .inr (12, [.int v0, .ref m1, .ref m2, .ref m3, .ref m4, .ref m5, .int v6, .int v7, .int v8, .int v9, .int v10, .long v11, .int v12, .int v13, .int v14, .int v15, .ref m16, .ref m17, .ref m18, .ref m19, .ref m20, .ref m21, .ref m22, .ref m23, .int v24, .ref m25, .ref m26, .ref m27, .ref m28, .ref m29, .int v30, .ref m31, .ref m32, .ref m33, .int v34, .int v35, .int v36, .ref m37, .ref m38, .ref m39, .ref m40, .long v41])), (m18, .inl (k 0, 250, .inl f18))]) hP hD [2, 3] [0, 1] rfl rfl (by decide) (by decide) hk1 hFc hP1 hD1
            clear hK1 hP1 hD1 hPc hDc hFc
            clear hk1 hz1 ht hvm
            have hP : va_P D vwCl [(m17, .inl (k 0, 30, .inl f17)), (m26, .inl (k 0, 8, .inl g_56)), (mo, .inr (12, [.int v0, .ref m1, .ref m2, .ref m3, .ref m4, .ref m5, .int v6, .int v7, .int v8, .int v9, .int v10, .long v11, .int v12, .int v13, .int v14, .int v15, .ref m16, .ref m17, .ref m18, .ref m19, .ref m20, .ref m21, .ref m22, .ref m23, .int v24, .ref m25, .ref m26, .ref m27, .ref m28, .ref m29, .int v30, .ref m31, .ref m32, .ref m33, .int v34, .int v35, .int v36, .ref m37, .ref m38, .ref m39, .ref m40, .long v41])), (m18, .inl (k 0, 250, .inl f18))] H1 := hP
            have hD : va_D A [(m17, .inl (k 0, 30, .inl f17)), (m26, .inl (k 0, 8, .inl g_56)), (mo, .inr (12, [.int v0, .ref m1, .ref m2, .ref m3, .ref m4, .ref m5, .int v6, .int v7, .int v8, .int v9, .int v10, .long v11, .int v12, .int v13, .int v14, .int v15, .ref m16, .ref m17, .ref m18, .ref m19, .ref m20, .ref m21, .ref m22, .ref m23, .int v24, .ref m25, .ref m26, .ref m27, .ref m28, .ref m29, .int v30, .ref m31, .ref m32, .ref m33, .int v34, .int v35, .int v36, .ref m37, .ref m38, .ref m39, .ref m40, .long v41])), (m18, .inl (k 0, 250, .inl f18))] := hD
            generalize H1 = H at hP hS ⊢
            have hw_70 : (0 ≤ r_69.toInt ∧ r_69.toInt ≤ 70) ∧ (r_69 = takesOf f18 L15l4 p1) ∧ ((f18 (5 * L15l4 + 2).toNatClampNeg).toInt ≤ r_69.toInt) := hw
            obtain ⟨hw_71, hw_72, hw_73⟩ := hw_70
            clear hw
            obtain rfl : r_21 = r_69 := hw_24.trans hw_72.symm
            refine lv_iadd hx hb dX12_lowers_154 ?_
            refine lv_topi (fun x_74 ex_74 => ?_)
            obtain rfl : x_64 = x_74 := ex_64.trans ex_74.symm
            refine va_iast hx hb hK hP hD hS 1 0 rfl rfl (z_in (by omega) (by omega)) dX12_lowers_155 (fun H locs hP hD hS => ?_)
            obtain ⟨g_75, eg_75⟩ : ∃ z : Nat → Int32, upd g_56 x_16.toNatClampNeg x_64 = z := ⟨_, rfl⟩
            have hP : va_P D vwCl [(m17, .inl (k 0, 30, .inl f17)), (m26, .inl (k 0, 8, .inl (upd g_56 x_16.toNatClampNeg x_64))), (mo, .inr (12, [.int v0, .ref m1, .ref m2, .ref m3, .ref m4, .ref m5, .int v6, .int v7, .int v8, .int v9, .int v10, .long v11, .int v12, .int v13, .int v14, .int v15, .ref m16, .ref m17, .ref m18, .ref m19, .ref m20, .ref m21, .ref m22, .ref m23, .int v24, .ref m25, .ref m26, .ref m27, .ref m28, .ref m29, .int v30, .ref m31, .ref m32, .ref m33, .int v34, .int v35, .int v36, .ref m37, .ref m38, .ref m39, .ref m40, .long v41])), (m18, .inl (k 0, 250, .inl f18))] H := hP
            have hD : va_D A [(m17, .inl (k 0, 30, .inl f17)), (m26, .inl (k 0, 8, .inl (upd g_56 x_16.toNatClampNeg x_64))), (mo, .inr (12, [.int v0, .ref m1, .ref m2, .ref m3, .ref m4, .ref m5, .int v6, .int v7, .int v8, .int v9, .int v10, .long v11, .int v12, .int v13, .int v14, .int v15, .ref m16, .ref m17, .ref m18, .ref m19, .ref m20, .ref m21, .ref m22, .ref m23, .int v24, .ref m25, .ref m26, .ref m27, .ref m28, .ref m29, .int v30, .ref m31, .ref m32, .ref m33, .int v34, .int v35, .int v36, .ref m37, .ref m38, .ref m39, .ref m40, .long v41])), (m18, .inl (k 0, 250, .inl f18))] := hD
            rw [eg_75] at hP hD
            have hp_76 : PR 8 1 0 0 100000 g_75 := by rw [← eg_75]; exact PR.put hp_57 ⟨by omega, by omega⟩
            obtain ⟨x_77, ex_77⟩ : ∃ y : Int32, y = L15l4 + 1 := ⟨_, rfl⟩
            have zx_77 : x_77.toInt = L15l4.toInt + 1 := by rw [ex_77]; exact z_add rfl rfl (by omega) (by omega)
            refine lv_iinc (v := x_77) (lv' := [(4, .int x_77), (6, .int x_19), (5, .int x_16), (0, .ref mo), (1, .int p0), (2, .int p1), (3, .int L2l3)]) hx hb dX12_lowers_156 hl (k := 6) rfl (by rw [ex_77]; rfl) (by decide) rfl (fun ls hl => ?_)
            refine lv_goto (tgt := 15) hx hb dX12_lowers_159 (by decide) ?_
            exact ih_5 _ _ _ _ (by omega) ⟨x_77, g_75, rfl, (show 0 ≤ x_77.toInt ∧ x_77.toInt ≤ 10 from by omega), hp_76, hP.sub (ws' := [(mo, .inr (12, [.int v0, .ref m1, .ref m2, .ref m3, .ref m4, .ref m5, .int v6, .int v7, .int v8, .int v9, .int v10, .long v11, .int v12, .int v13, .int v14, .int v15, .ref m16, .ref m17, .ref m18, .ref m19, .ref m20, .ref m21, .ref m22, .ref m23, .int v24, .ref m25, .ref m26, .ref m27, .ref m28, .ref m29, .int v30, .ref m31, .ref m32, .ref m33, .int v34, .int v35, .int v36, .ref m37, .ref m38, .ref m39, .ref m40, .long v41])), (m17, .inl (k 0, 30, .inl f17)), (m18, .inl (k 0, 250, .inl f18)), (m26, .inl (k 0, 8, .inl g_75))]) [2, 0, 3, 1] rfl, hD.sub (ws' := [(mo, .inr (12, [.int v0, .ref m1, .ref m2, .ref m3, .ref m4, .ref m5, .int v6, .int v7, .int v8, .int v9, .int v10, .long v11, .int v12, .int v13, .int v14, .int v15, .ref m16, .ref m17, .ref m18, .ref m19, .ref m20, .ref m21, .ref m22, .ref m23, .int v24, .ref m25, .ref m26, .ref m27, .ref m28, .ref m29, .int v30, .ref m31, .ref m32, .ref m33, .int v34, .int v35, .int v36, .ref m37, .ref m38, .ref m39, .ref m40, .long v41])), (m17, .inl (k 0, 30, .inl f17)), (m18, .inl (k 0, 250, .inl f18)), (m26, .inl (k 0, 8, .inl g_75))]) [2, 0, 3, 1] (by decide) rfl, hS, lv_sub hl [3, 4, 5, 6, 0] rfl⟩
      · skip
        have zh_14 : r_10.toInt = 0 := z_eq h_14
        refine lv_goto (tgt := 156) hx hb dX12_lowers_35 (by decide) ?_
        obtain ⟨x_78, ex_78⟩ : ∃ y : Int32, y = L15l4 + 1 := ⟨_, rfl⟩
        have zx_78 : x_78.toInt = L15l4.toInt + 1 := by rw [ex_78]; exact z_add rfl rfl (by omega) (by omega)
        refine lv_iinc (v := x_78) (lv' := [(4, .int x_78), (0, .ref mo), (1, .int p0), (2, .int p1), (3, .int L2l3)]) hx hb dX12_lowers_156 hl (k := 4) rfl (by rw [ex_78]; rfl) (by decide) rfl (fun ls hl => ?_)
        refine lv_goto (tgt := 15) hx hb dX12_lowers_159 (by decide) ?_
        exact ih_5 _ _ _ _ (by omega) ⟨x_78, L15a3, rfl, (show 0 ≤ x_78.toInt ∧ x_78.toInt ≤ 10 from by omega), L15a3h0, hP.sub (ws' := [(mo, .inr (12, [.int v0, .ref m1, .ref m2, .ref m3, .ref m4, .ref m5, .int v6, .int v7, .int v8, .int v9, .int v10, .long v11, .int v12, .int v13, .int v14, .int v15, .ref m16, .ref m17, .ref m18, .ref m19, .ref m20, .ref m21, .ref m22, .ref m23, .int v24, .ref m25, .ref m26, .ref m27, .ref m28, .ref m29, .int v30, .ref m31, .ref m32, .ref m33, .int v34, .int v35, .int v36, .ref m37, .ref m38, .ref m39, .ref m40, .long v41])), (m17, .inl (k 0, 30, .inl f17)), (m18, .inl (k 0, 250, .inl f18)), (m26, .inl (k 0, 8, .inl L15a3))]) [0, 1, 2, 3] rfl, hD.sub (ws' := [(mo, .inr (12, [.int v0, .ref m1, .ref m2, .ref m3, .ref m4, .ref m5, .int v6, .int v7, .int v8, .int v9, .int v10, .long v11, .int v12, .int v13, .int v14, .int v15, .ref m16, .ref m17, .ref m18, .ref m19, .ref m20, .ref m21, .ref m22, .ref m23, .int v24, .ref m25, .ref m26, .ref m27, .ref m28, .ref m29, .int v30, .ref m31, .ref m32, .ref m33, .int v34, .int v35, .int v36, .ref m37, .ref m38, .ref m39, .ref m40, .long v41])), (m17, .inl (k 0, 30, .inl f17)), (m18, .inl (k 0, 250, .inl f18)), (m26, .inl (k 0, 8, .inl L15a3))]) [0, 1, 2, 3] (by decide) rfl, hS, lv_sub hl [1, 2, 3, 4, 0] rfl⟩
set_option maxHeartbeats 4000000 in
set_option maxRecDepth 100000 in
theorem c_X12_begins__0 (l : Launch) (D : va_G) (k : Nat → ClassId) (mo : Nat) (p0 : Int32) (p1 : Int32) (v0 : Int32) (m1 : Nat) (m2 : Nat) (m3 : Nat) (m4 : Nat) (m5 : Nat) (v6 : Int32) (v7 : Int32) (v8 : Int32) (v9 : Int32) (v10 : Int32) (v11 : Int64) (v12 : Int32) (v13 : Int32) (v14 : Int32) (v15 : Int32) (m16 : Nat) (m17 : Nat) (m18 : Nat) (m19 : Nat) (m20 : Nat) (m21 : Nat) (m22 : Nat) (m23 : Nat) (v24 : Int32) (m25 : Nat) (m26 : Nat) (m27 : Nat) (m28 : Nat) (m29 : Nat) (v30 : Int32) (m31 : Nat) (m32 : Nat) (m33 : Nat) (v34 : Int32) (v35 : Int32) (v36 : Int32) (m37 : Nat) (m38 : Nat) (m39 : Nat) (m40 : Nat) (v41 : Int64) (f26 : Nat → Int32) (sz : Nat) (h_p0 : 0 ≤ p0.toInt ∧ p0.toInt ≤ 7) (h_p1 : 0 ≤ p1.toInt ∧ p1.toInt ≤ 129) (h_v6 : 0 ≤ v6.toInt ∧ v6.toInt ≤ 1000) (h_v24 : 0 ≤ v24.toInt ∧ v24.toInt ≤ 1023) (hp_f26_0 : PR 8 1 0 0 100000 f26) (hp_f26_1 : MN f26) : Met l yX12_begins_ (ww yX12_begins_ cX12_begins_ 3 none) ({ frames := 0, cells := 0, slots := 0, locals := 0 }) (Pre0 D k [(mo, .inr (12, [.int v0, .ref m1, .ref m2, .ref m3, .ref m4, .ref m5, .int v6, .int v7, .int v8, .int v9, .int v10, .long v11, .int v12, .int v13, .int v14, .int v15, .ref m16, .ref m17, .ref m18, .ref m19, .ref m20, .ref m21, .ref m22, .ref m23, .int v24, .ref m25, .ref m26, .ref m27, .ref m28, .ref m29, .int v30, .ref m31, .ref m32, .ref m33, .int v34, .int v35, .int v36, .ref m37, .ref m38, .ref m39, .ref m40, .long v41])), (m26, .inl (k 0, 8, .inl f26))] sz [.ref mo, .int p0, .int p1]) (va_Qv (fun (f26z : (Nat → Int32)) => (PR 8 1 0 0 100000 f26z) ∧ (MN f26z)) (fun (f26z : (Nat → Int32)) tZ => Bw D k (va_A [(mo, .inr (12, [.int v0, .ref m1, .ref m2, .ref m3, .ref m4, .ref m5, .int v6, .int v7, .int v8, .int v9, .int v10, .long v11, .int v12, .int v13, .int v14, .int v15, .ref m16, .ref m17, .ref m18, .ref m19, .ref m20, .ref m21, .ref m22, .ref m23, .int v24, .ref m25, .ref m26, .ref m27, .ref m28, .ref m29, .int v30, .ref m31, .ref m32, .ref m33, .int v34, .int v35, .int v36, .ref m37, .ref m38, .ref m39, .ref m40, .long v41])), (m26, .inl (k 0, 8, .inl f26))] sz) [(mo, .inr (12, [.int v0, .ref m1, .ref m2, .ref m3, .ref m4, .ref m5, .int v6, .int v7, .int v8, .int v9, .int v10, .long v11, .int v12, .int v13, .int v14, .int v15, .ref m16, .ref m17, .ref m18, .ref m19, .ref m20, .ref m21, .ref m22, .ref m23, .int v24, .ref m25, .ref m26, .ref m27, .ref m28, .ref m29, .int v30, .ref m31, .ref m32, .ref m33, .int v34, .int v35, .int v36, .ref m37, .ref m38, .ref m39, .ref m40, .long v41])), (m26, .inl (k 0, 8, .inl f26z))] tZ) (va_A [(mo, .inr (12, [.int v0, .ref m1, .ref m2, .ref m3, .ref m4, .ref m5, .int v6, .int v7, .int v8, .int v9, .int v10, .long v11, .int v12, .int v13, .int v14, .int v15, .ref m16, .ref m17, .ref m18, .ref m19, .ref m20, .ref m21, .ref m22, .ref m23, .int v24, .ref m25, .ref m26, .ref m27, .ref m28, .ref m29, .int v30, .ref m31, .ref m32, .ref m33, .int v34, .int v35, .int v36, .ref m37, .ref m38, .ref m39, .ref m40, .long v41])), (m26, .inl (k 0, 8, .inl f26))] sz)) 0 0 (va_A [(mo, .inr (12, [.int v0, .ref m1, .ref m2, .ref m3, .ref m4, .ref m5, .int v6, .int v7, .int v8, .int v9, .int v10, .long v11, .int v12, .int v13, .int v14, .int v15, .ref m16, .ref m17, .ref m18, .ref m19, .ref m20, .ref m21, .ref m22, .ref m23, .int v24, .ref m25, .ref m26, .ref m27, .ref m28, .ref m29, .int v30, .ref m31, .ref m32, .ref m33, .int v34, .int v35, .int v36, .ref m37, .ref m38, .ref m39, .ref m40, .long v41])), (m26, .inl (k 0, 8, .inl f26))] sz) := by
  refine Met.ofW (cc := cX12_begins_) (maxL := 3) (ret := none) (by decide +kernel) rfl ?_
  intro p e s m args below meth c s₁ B hml hv
  obtain ⟨rfl, hsz, hP, hK, hD0, hN⟩ := hv
  have hx := B.exec
  have hb := B.bytes
  have hr := B.returns
  have hts : ∀ w ∈ TT, w.before _ s = true := fun w h => atoms_spec (ws := ww yX12_begins_ cX12_begins_ 3 none) B.pre w (List.mem_cons_of_mem _ h)
  have hown : s.vm.findClass RX12 = some m.cls := findClass_of_methodNamed B.named
  have hlocks := B.notSynchronized
  subst hsz
  have hD := hD0.self (sz := s.heap.size)
  generalize hAe : va_A [(mo, .inr (12, [.int v0, .ref m1, .ref m2, .ref m3, .ref m4, .ref m5, .int v6, .int v7, .int v8, .int v9, .int v10, .long v11, .int v12, .int v13, .int v14, .int v15, .ref m16, .ref m17, .ref m18, .ref m19, .ref m20, .ref m21, .ref m22, .ref m23, .int v24, .ref m25, .ref m26, .ref m27, .ref m28, .ref m29, .int v30, .ref m31, .ref m32, .ref m33, .int v34, .int v35, .int v36, .ref m37, .ref m38, .ref m39, .ref m40, .long v41])), (m26, .inl (k 0, 8, .inl f26))] s.heap.size = A at hD ⊢
  have hA : ∀ q : Nat, s.heap.size ≤ q → A q := fun q h => by rw [← hAe]; exact Or.inr h
  have hS : va_S A s.heap s.heap [] := va_S.rf
  have hl := lv_entry ([.ref mo, .int p0, .int p1]) (n := 3) (Nat.le_of_ble_eq_true rfl)
  rw [lg_entry_eq]
  generalize (lg_sl ([.ref mo, .int p0, .int p1]) ++ List.replicate (3 - (lg_sl ([.ref mo, .int p0, .int p1])).length) Slot.unset).toArray = ls at hl ⊢
  have hl : lv_has ls 3 [(0, .ref mo), (1, .int p0), (2, .int p1)] := hl
  refine lv_iload_n hx hb dX12_begins__0 rfl (lv_at hl 2 rfl) ?_
  refine lv_aload_n hx hb dX12_begins__1 rfl (lv_at hl 0 rfl) ?_
  refine va_get (D := D) (ci := 12) (v := .ref m26) (C := RX12) (T := TX12) (N := 42) hx hb hts iT_X12 hown hK hP 0 rfl rfl 26 (by decide) (hts _ tw_6_79) (fun _ h9 => h9) rfl dX12_begins__2 ?_
  refine lv_iload_n hx hb dX12_begins__5 rfl (lv_at hl 1 rfl) ?_
  refine va_iald hx hb hK hP 1 0 rfl rfl (z_in (by omega) (by omega)) dX12_begins__6 ?_
  refine lv_topi (fun x_1 ex_1 => ?_)
  have zx_1r0 : 0 ≤ x_1.toInt ∧ x_1.toInt ≤ 100000 := by rw [ex_1]; exact PR.ld hp_f26_0 (by omega) (by omega) (by omega)
  have zmnx_1 : x_1.toInt = 100000 ∨ x_1.toInt ≤ 619 := by rw [ex_1]; exact MN.ld hp_f26_1 (by omega) (by omega)
  refine lv_icmp_ge (tgt := 17) hx hb dX12_begins__7 (by decide) (fun h_2 => ?_) (fun h_2 => ?_)
  · skip
    have zh_2 : x_1.toInt ≤ p1.toInt := z_le h_2
    have hP9 := hP.sub (ws' := [(mo, .inr (12, [.int v0, .ref m1, .ref m2, .ref m3, .ref m4, .ref m5, .int v6, .int v7, .int v8, .int v9, .int v10, .long v11, .int v12, .int v13, .int v14, .int v15, .ref m16, .ref m17, .ref m18, .ref m19, .ref m20, .ref m21, .ref m22, .ref m23, .int v24, .ref m25, .ref m26, .ref m27, .ref m28, .ref m29, .int v30, .ref m31, .ref m32, .ref m33, .int v34, .int v35, .int v36, .ref m37, .ref m38, .ref m39, .ref m40, .long v41])), (m26, .inl (k 0, 8, .inl f26))]) [0, 1] rfl
    have hD9 := hD.sub (ws' := [(mo, .inr (12, [.int v0, .ref m1, .ref m2, .ref m3, .ref m4, .ref m5, .int v6, .int v7, .int v8, .int v9, .int v10, .long v11, .int v12, .int v13, .int v14, .int v15, .ref m16, .ref m17, .ref m18, .ref m19, .ref m20, .ref m21, .ref m22, .ref m23, .int v24, .ref m25, .ref m26, .ref m27, .ref m28, .ref m29, .int v30, .ref m31, .ref m32, .ref m33, .int v34, .int v35, .int v36, .ref m37, .ref m38, .ref m39, .ref m40, .long v41])), (m26, .inl (k 0, 8, .inl f26))]) [0, 1] (by decide) rfl
    exact W.vret hx hb hr (fun tZ ht hW => ⟨⟨f26, rfl, ⟨hp_f26_0, hp_f26_1⟩, by rw [ht]; exact hP9, va_K.moved hW.alike hK, hD9⟩, hS.F ht⟩) hS.2.2 dX12_begins__17
  · skip
    have zh_2 : p1.toInt < x_1.toInt := z_nle h_2
    refine lv_aload_n hx hb dX12_begins__10 rfl (lv_at hl 0 rfl) ?_
    refine va_get (D := D) (ci := 12) (v := .ref m26) (C := RX12) (T := TX12) (N := 42) hx hb hts iT_X12 hown hK hP 0 rfl rfl 26 (by decide) (hts _ tw_6_79) (fun _ h9 => h9) rfl dX12_begins__11 ?_
    refine lv_iload_n hx hb dX12_begins__14 rfl (lv_at hl 1 rfl) ?_
    refine lv_iload_n hx hb dX12_begins__15 rfl (lv_at hl 2 rfl) ?_
    refine va_iast hx hb hK hP hD hS 1 0 rfl rfl (z_in (by omega) (by omega)) dX12_begins__16 (fun H locs hP hD hS => ?_)
    obtain ⟨g_3, eg_3⟩ : ∃ z : Nat → Int32, upd f26 p0.toNatClampNeg p1 = z := ⟨_, rfl⟩
    have hP : va_P D vwCl [(mo, .inr (12, [.int v0, .ref m1, .ref m2, .ref m3, .ref m4, .ref m5, .int v6, .int v7, .int v8, .int v9, .int v10, .long v11, .int v12, .int v13, .int v14, .int v15, .ref m16, .ref m17, .ref m18, .ref m19, .ref m20, .ref m21, .ref m22, .ref m23, .int v24, .ref m25, .ref m26, .ref m27, .ref m28, .ref m29, .int v30, .ref m31, .ref m32, .ref m33, .int v34, .int v35, .int v36, .ref m37, .ref m38, .ref m39, .ref m40, .long v41])), (m26, .inl (k 0, 8, .inl (upd f26 p0.toNatClampNeg p1)))] H := hP
    have hD : va_D A [(mo, .inr (12, [.int v0, .ref m1, .ref m2, .ref m3, .ref m4, .ref m5, .int v6, .int v7, .int v8, .int v9, .int v10, .long v11, .int v12, .int v13, .int v14, .int v15, .ref m16, .ref m17, .ref m18, .ref m19, .ref m20, .ref m21, .ref m22, .ref m23, .int v24, .ref m25, .ref m26, .ref m27, .ref m28, .ref m29, .int v30, .ref m31, .ref m32, .ref m33, .int v34, .int v35, .int v36, .ref m37, .ref m38, .ref m39, .ref m40, .long v41])), (m26, .inl (k 0, 8, .inl (upd f26 p0.toNatClampNeg p1)))] := hD
    rw [eg_3] at hP hD
    have hp_4 : PR 8 1 0 0 100000 g_3 := by rw [← eg_3]; exact PR.put hp_f26_0 ⟨by omega, by omega⟩
    have hp_5 : MN g_3 := by rw [← eg_3]; exact MN.enter hp_f26_1 (b := p0) (by omega) (by omega) (by omega)
    have hP9 := hP.sub (ws' := [(mo, .inr (12, [.int v0, .ref m1, .ref m2, .ref m3, .ref m4, .ref m5, .int v6, .int v7, .int v8, .int v9, .int v10, .long v11, .int v12, .int v13, .int v14, .int v15, .ref m16, .ref m17, .ref m18, .ref m19, .ref m20, .ref m21, .ref m22, .ref m23, .int v24, .ref m25, .ref m26, .ref m27, .ref m28, .ref m29, .int v30, .ref m31, .ref m32, .ref m33, .int v34, .int v35, .int v36, .ref m37, .ref m38, .ref m39, .ref m40, .long v41])), (m26, .inl (k 0, 8, .inl g_3))]) [0, 1] rfl
    have hD9 := hD.sub (ws' := [(mo, .inr (12, [.int v0, .ref m1, .ref m2, .ref m3, .ref m4, .ref m5, .int v6, .int v7, .int v8, .int v9, .int v10, .long v11, .int v12, .int v13, .int v14, .int v15, .ref m16, .ref m17, .ref m18, .ref m19, .ref m20, .ref m21, .ref m22, .ref m23, .int v24, .ref m25, .ref m26, .ref m27, .ref m28, .ref m29, .int v30, .ref m31, .ref m32, .ref m33, .int v34, .int v35, .int v36, .ref m37, .ref m38, .ref m39, .ref m40, .long v41])), (m26, .inl (k 0, 8, .inl g_3))]) [0, 1] (by decide) rfl
    exact W.vret hx hb hr (fun tZ ht hW => ⟨⟨g_3, rfl, ⟨hp_4, hp_5⟩, by rw [ht]; exact hP9, va_K.moved hW.alike hK, hD9⟩, hS.F ht⟩) hS.2.2 dX12_begins__17
set_option maxHeartbeats 4000000 in
set_option maxRecDepth 100000 in
theorem c_X12_begins__1 (l : Launch) (D : va_G) (k : Nat → ClassId) (mo : Nat) (p0 : Int32) (p1 : Int32) (v0 : Int32) (m1 : Nat) (m2 : Nat) (m3 : Nat) (m4 : Nat) (m5 : Nat) (v6 : Int32) (v7 : Int32) (v8 : Int32) (v9 : Int32) (v10 : Int32) (v11 : Int64) (v12 : Int32) (v13 : Int32) (v14 : Int32) (v15 : Int32) (m16 : Nat) (m17 : Nat) (m18 : Nat) (m19 : Nat) (m20 : Nat) (m21 : Nat) (m22 : Nat) (m23 : Nat) (v24 : Int32) (m25 : Nat) (m26 : Nat) (m27 : Nat) (m28 : Nat) (m29 : Nat) (v30 : Int32) (m31 : Nat) (m32 : Nat) (m33 : Nat) (v34 : Int32) (v35 : Int32) (v36 : Int32) (m37 : Nat) (m38 : Nat) (m39 : Nat) (m40 : Nat) (v41 : Int64) (f26 : Nat → Int32) (sz : Nat) (h_p0 : 0 ≤ p0.toInt ∧ p0.toInt ≤ 7) (h_p1 : 0 ≤ p1.toInt ∧ p1.toInt ≤ 999) (h_v6 : 0 ≤ v6.toInt ∧ v6.toInt ≤ 1000) (h_v24 : 0 ≤ v24.toInt ∧ v24.toInt ≤ 1023) (hp_f26_0 : PR 8 1 0 0 100000 f26) : Met l yX12_begins_ (ww yX12_begins_ cX12_begins_ 3 none) ({ frames := 0, cells := 0, slots := 0, locals := 0 }) (Pre0 D k [(mo, .inr (12, [.int v0, .ref m1, .ref m2, .ref m3, .ref m4, .ref m5, .int v6, .int v7, .int v8, .int v9, .int v10, .long v11, .int v12, .int v13, .int v14, .int v15, .ref m16, .ref m17, .ref m18, .ref m19, .ref m20, .ref m21, .ref m22, .ref m23, .int v24, .ref m25, .ref m26, .ref m27, .ref m28, .ref m29, .int v30, .ref m31, .ref m32, .ref m33, .int v34, .int v35, .int v36, .ref m37, .ref m38, .ref m39, .ref m40, .long v41])), (m26, .inl (k 0, 8, .inl f26))] sz [.ref mo, .int p0, .int p1]) (va_Qv (fun (f26z : (Nat → Int32)) => (PR 8 1 0 0 100000 f26z)) (fun (f26z : (Nat → Int32)) tZ => Bw D k (va_A [(mo, .inr (12, [.int v0, .ref m1, .ref m2, .ref m3, .ref m4, .ref m5, .int v6, .int v7, .int v8, .int v9, .int v10, .long v11, .int v12, .int v13, .int v14, .int v15, .ref m16, .ref m17, .ref m18, .ref m19, .ref m20, .ref m21, .ref m22, .ref m23, .int v24, .ref m25, .ref m26, .ref m27, .ref m28, .ref m29, .int v30, .ref m31, .ref m32, .ref m33, .int v34, .int v35, .int v36, .ref m37, .ref m38, .ref m39, .ref m40, .long v41])), (m26, .inl (k 0, 8, .inl f26))] sz) [(mo, .inr (12, [.int v0, .ref m1, .ref m2, .ref m3, .ref m4, .ref m5, .int v6, .int v7, .int v8, .int v9, .int v10, .long v11, .int v12, .int v13, .int v14, .int v15, .ref m16, .ref m17, .ref m18, .ref m19, .ref m20, .ref m21, .ref m22, .ref m23, .int v24, .ref m25, .ref m26, .ref m27, .ref m28, .ref m29, .int v30, .ref m31, .ref m32, .ref m33, .int v34, .int v35, .int v36, .ref m37, .ref m38, .ref m39, .ref m40, .long v41])), (m26, .inl (k 0, 8, .inl f26z))] tZ) (va_A [(mo, .inr (12, [.int v0, .ref m1, .ref m2, .ref m3, .ref m4, .ref m5, .int v6, .int v7, .int v8, .int v9, .int v10, .long v11, .int v12, .int v13, .int v14, .int v15, .ref m16, .ref m17, .ref m18, .ref m19, .ref m20, .ref m21, .ref m22, .ref m23, .int v24, .ref m25, .ref m26, .ref m27, .ref m28, .ref m29, .int v30, .ref m31, .ref m32, .ref m33, .int v34, .int v35, .int v36, .ref m37, .ref m38, .ref m39, .ref m40, .long v41])), (m26, .inl (k 0, 8, .inl f26))] sz)) 0 0 (va_A [(mo, .inr (12, [.int v0, .ref m1, .ref m2, .ref m3, .ref m4, .ref m5, .int v6, .int v7, .int v8, .int v9, .int v10, .long v11, .int v12, .int v13, .int v14, .int v15, .ref m16, .ref m17, .ref m18, .ref m19, .ref m20, .ref m21, .ref m22, .ref m23, .int v24, .ref m25, .ref m26, .ref m27, .ref m28, .ref m29, .int v30, .ref m31, .ref m32, .ref m33, .int v34, .int v35, .int v36, .ref m37, .ref m38, .ref m39, .ref m40, .long v41])), (m26, .inl (k 0, 8, .inl f26))] sz) := by
  refine Met.ofW (cc := cX12_begins_) (maxL := 3) (ret := none) (by decide +kernel) rfl ?_
  intro p e s m args below meth c s₁ B hml hv
  obtain ⟨rfl, hsz, hP, hK, hD0, hN⟩ := hv
  have hx := B.exec
  have hb := B.bytes
  have hr := B.returns
  have hts : ∀ w ∈ TT, w.before _ s = true := fun w h => atoms_spec (ws := ww yX12_begins_ cX12_begins_ 3 none) B.pre w (List.mem_cons_of_mem _ h)
  have hown : s.vm.findClass RX12 = some m.cls := findClass_of_methodNamed B.named
  have hlocks := B.notSynchronized
  subst hsz
  have hD := hD0.self (sz := s.heap.size)
  generalize hAe : va_A [(mo, .inr (12, [.int v0, .ref m1, .ref m2, .ref m3, .ref m4, .ref m5, .int v6, .int v7, .int v8, .int v9, .int v10, .long v11, .int v12, .int v13, .int v14, .int v15, .ref m16, .ref m17, .ref m18, .ref m19, .ref m20, .ref m21, .ref m22, .ref m23, .int v24, .ref m25, .ref m26, .ref m27, .ref m28, .ref m29, .int v30, .ref m31, .ref m32, .ref m33, .int v34, .int v35, .int v36, .ref m37, .ref m38, .ref m39, .ref m40, .long v41])), (m26, .inl (k 0, 8, .inl f26))] s.heap.size = A at hD ⊢
  have hA : ∀ q : Nat, s.heap.size ≤ q → A q := fun q h => by rw [← hAe]; exact Or.inr h
  have hS : va_S A s.heap s.heap [] := va_S.rf
  have hl := lv_entry ([.ref mo, .int p0, .int p1]) (n := 3) (Nat.le_of_ble_eq_true rfl)
  rw [lg_entry_eq]
  generalize (lg_sl ([.ref mo, .int p0, .int p1]) ++ List.replicate (3 - (lg_sl ([.ref mo, .int p0, .int p1])).length) Slot.unset).toArray = ls at hl ⊢
  have hl : lv_has ls 3 [(0, .ref mo), (1, .int p0), (2, .int p1)] := hl
  refine lv_iload_n hx hb dX12_begins__0 rfl (lv_at hl 2 rfl) ?_
  refine lv_aload_n hx hb dX12_begins__1 rfl (lv_at hl 0 rfl) ?_
  refine va_get (D := D) (ci := 12) (v := .ref m26) (C := RX12) (T := TX12) (N := 42) hx hb hts iT_X12 hown hK hP 0 rfl rfl 26 (by decide) (hts _ tw_6_79) (fun _ h9 => h9) rfl dX12_begins__2 ?_
  refine lv_iload_n hx hb dX12_begins__5 rfl (lv_at hl 1 rfl) ?_
  refine va_iald hx hb hK hP 1 0 rfl rfl (z_in (by omega) (by omega)) dX12_begins__6 ?_
  refine lv_topi (fun x_1 ex_1 => ?_)
  have zx_1r0 : 0 ≤ x_1.toInt ∧ x_1.toInt ≤ 100000 := by rw [ex_1]; exact PR.ld hp_f26_0 (by omega) (by omega) (by omega)
  refine lv_icmp_ge (tgt := 17) hx hb dX12_begins__7 (by decide) (fun h_2 => ?_) (fun h_2 => ?_)
  · skip
    have zh_2 : x_1.toInt ≤ p1.toInt := z_le h_2
    have hP9 := hP.sub (ws' := [(mo, .inr (12, [.int v0, .ref m1, .ref m2, .ref m3, .ref m4, .ref m5, .int v6, .int v7, .int v8, .int v9, .int v10, .long v11, .int v12, .int v13, .int v14, .int v15, .ref m16, .ref m17, .ref m18, .ref m19, .ref m20, .ref m21, .ref m22, .ref m23, .int v24, .ref m25, .ref m26, .ref m27, .ref m28, .ref m29, .int v30, .ref m31, .ref m32, .ref m33, .int v34, .int v35, .int v36, .ref m37, .ref m38, .ref m39, .ref m40, .long v41])), (m26, .inl (k 0, 8, .inl f26))]) [0, 1] rfl
    have hD9 := hD.sub (ws' := [(mo, .inr (12, [.int v0, .ref m1, .ref m2, .ref m3, .ref m4, .ref m5, .int v6, .int v7, .int v8, .int v9, .int v10, .long v11, .int v12, .int v13, .int v14, .int v15, .ref m16, .ref m17, .ref m18, .ref m19, .ref m20, .ref m21, .ref m22, .ref m23, .int v24, .ref m25, .ref m26, .ref m27, .ref m28, .ref m29, .int v30, .ref m31, .ref m32, .ref m33, .int v34, .int v35, .int v36, .ref m37, .ref m38, .ref m39, .ref m40, .long v41])), (m26, .inl (k 0, 8, .inl f26))]) [0, 1] (by decide) rfl
    exact W.vret hx hb hr (fun tZ ht hW => ⟨⟨f26, rfl, hp_f26_0, by rw [ht]; exact hP9, va_K.moved hW.alike hK, hD9⟩, hS.F ht⟩) hS.2.2 dX12_begins__17
  · skip
    have zh_2 : p1.toInt < x_1.toInt := z_nle h_2
    refine lv_aload_n hx hb dX12_begins__10 rfl (lv_at hl 0 rfl) ?_
    refine va_get (D := D) (ci := 12) (v := .ref m26) (C := RX12) (T := TX12) (N := 42) hx hb hts iT_X12 hown hK hP 0 rfl rfl 26 (by decide) (hts _ tw_6_79) (fun _ h9 => h9) rfl dX12_begins__11 ?_
    refine lv_iload_n hx hb dX12_begins__14 rfl (lv_at hl 1 rfl) ?_
    refine lv_iload_n hx hb dX12_begins__15 rfl (lv_at hl 2 rfl) ?_
    refine va_iast hx hb hK hP hD hS 1 0 rfl rfl (z_in (by omega) (by omega)) dX12_begins__16 (fun H locs hP hD hS => ?_)
    obtain ⟨g_3, eg_3⟩ : ∃ z : Nat → Int32, upd f26 p0.toNatClampNeg p1 = z := ⟨_, rfl⟩
    have hP : va_P D vwCl [(mo, .inr (12, [.int v0, .ref m1, .ref m2, .ref m3, .ref m4, .ref m5, .int v6, .int v7, .int v8, .int v9, .int v10, .long v11, .int v12, .int v13, .int v14, .int v15, .ref m16, .ref m17, .ref m18, .ref m19, .ref m20, .ref m21, .ref m22, .ref m23, .int v24, .ref m25, .ref m26, .ref m27, .ref m28, .ref m29, .int v30, .ref m31, .ref m32, .ref m33, .int v34, .int v35, .int v36, .ref m37, .ref m38, .ref m39, .ref m40, .long v41])), (m26, .inl (k 0, 8, .inl (upd f26 p0.toNatClampNeg p1)))] H := hP
    have hD : va_D A [(mo, .inr (12, [.int v0, .ref m1, .ref m2, .ref m3, .ref m4, .ref m5, .int v6, .int v7, .int v8, .int v9, .int v10, .long v11, .int v12, .int v13, .int v14, .int v15, .ref m16, .ref m17, .ref m18, .ref m19, .ref m20, .ref m21, .ref m22, .ref m23, .int v24, .ref m25, .ref m26, .ref m27, .ref m28, .ref m29, .int v30, .ref m31, .ref m32, .ref m33, .int v34, .int v35, .int v36, .ref m37, .ref m38, .ref m39, .ref m40, .long v41])), (m26, .inl (k 0, 8, .inl (upd f26 p0.toNatClampNeg p1)))] := hD
    rw [eg_3] at hP hD
    have hp_4 : PR 8 1 0 0 100000 g_3 := by rw [← eg_3]; exact PR.put hp_f26_0 ⟨by omega, by omega⟩
    have hP9 := hP.sub (ws' := [(mo, .inr (12, [.int v0, .ref m1, .ref m2, .ref m3, .ref m4, .ref m5, .int v6, .int v7, .int v8, .int v9, .int v10, .long v11, .int v12, .int v13, .int v14, .int v15, .ref m16, .ref m17, .ref m18, .ref m19, .ref m20, .ref m21, .ref m22, .ref m23, .int v24, .ref m25, .ref m26, .ref m27, .ref m28, .ref m29, .int v30, .ref m31, .ref m32, .ref m33, .int v34, .int v35, .int v36, .ref m37, .ref m38, .ref m39, .ref m40, .long v41])), (m26, .inl (k 0, 8, .inl g_3))]) [0, 1] rfl
    have hD9 := hD.sub (ws' := [(mo, .inr (12, [.int v0, .ref m1, .ref m2, .ref m3, .ref m4, .ref m5, .int v6, .int v7, .int v8, .int v9, .int v10, .long v11, .int v12, .int v13, .int v14, .int v15, .ref m16, .ref m17, .ref m18, .ref m19, .ref m20, .ref m21, .ref m22, .ref m23, .int v24, .ref m25, .ref m26, .ref m27, .ref m28, .ref m29, .int v30, .ref m31, .ref m32, .ref m33, .int v34, .int v35, .int v36, .ref m37, .ref m38, .ref m39, .ref m40, .long v41])), (m26, .inl (k 0, 8, .inl g_3))]) [0, 1] (by decide) rfl
    exact W.vret hx hb hr (fun tZ ht hW => ⟨⟨g_3, rfl, hp_4, by rw [ht]; exact hP9, va_K.moved hW.alike hK, hD9⟩, hS.F ht⟩) hS.2.2 dX12_begins__17
set_option maxHeartbeats 4000000 in
set_option maxRecDepth 100000 in
theorem c_X12_never (l : Launch) (D : va_G) (k : Nat → ClassId) (mo : Nat) (v0 : Int32) (m1 : Nat) (m2 : Nat) (m3 : Nat) (m4 : Nat) (m5 : Nat) (v6 : Int32) (v7 : Int32) (v8 : Int32) (v9 : Int32) (v10 : Int32) (v11 : Int64) (v12 : Int32) (v13 : Int32) (v14 : Int32) (v15 : Int32) (m16 : Nat) (m17 : Nat) (m18 : Nat) (m19 : Nat) (m20 : Nat) (m21 : Nat) (m22 : Nat) (m23 : Nat) (v24 : Int32) (m25 : Nat) (m26 : Nat) (m27 : Nat) (m28 : Nat) (m29 : Nat) (v30 : Int32) (m31 : Nat) (m32 : Nat) (m33 : Nat) (v34 : Int32) (v35 : Int32) (v36 : Int32) (m37 : Nat) (m38 : Nat) (m39 : Nat) (m40 : Nat) (v41 : Int64) (f26 : Nat → Int32) (sz : Nat) (h_v6 : 0 ≤ v6.toInt ∧ v6.toInt ≤ 1000) (h_v24 : 0 ≤ v24.toInt ∧ v24.toInt ≤ 1023) (hp_f26_0 : PR 8 1 0 0 100000 f26) : Met l yX12_never (ww yX12_never cX12_never 2 none) ({ frames := 0, cells := 0, slots := 0, locals := 0 }) (Pre0 D k [(mo, .inr (12, [.int v0, .ref m1, .ref m2, .ref m3, .ref m4, .ref m5, .int v6, .int v7, .int v8, .int v9, .int v10, .long v11, .int v12, .int v13, .int v14, .int v15, .ref m16, .ref m17, .ref m18, .ref m19, .ref m20, .ref m21, .ref m22, .ref m23, .int v24, .ref m25, .ref m26, .ref m27, .ref m28, .ref m29, .int v30, .ref m31, .ref m32, .ref m33, .int v34, .int v35, .int v36, .ref m37, .ref m38, .ref m39, .ref m40, .long v41])), (m26, .inl (k 0, 8, .inl f26))] sz [.ref mo]) (va_Qv (fun (f26z : (Nat → Int32)) => (PR 8 1 0 0 100000 f26z) ∧ (MN f26z)) (fun (f26z : (Nat → Int32)) tZ => Bw D k (va_A [(mo, .inr (12, [.int v0, .ref m1, .ref m2, .ref m3, .ref m4, .ref m5, .int v6, .int v7, .int v8, .int v9, .int v10, .long v11, .int v12, .int v13, .int v14, .int v15, .ref m16, .ref m17, .ref m18, .ref m19, .ref m20, .ref m21, .ref m22, .ref m23, .int v24, .ref m25, .ref m26, .ref m27, .ref m28, .ref m29, .int v30, .ref m31, .ref m32, .ref m33, .int v34, .int v35, .int v36, .ref m37, .ref m38, .ref m39, .ref m40, .long v41])), (m26, .inl (k 0, 8, .inl f26))] sz) [(mo, .inr (12, [.int v0, .ref m1, .ref m2, .ref m3, .ref m4, .ref m5, .int v6, .int v7, .int v8, .int v9, .int v10, .long v11, .int v12, .int v13, .int v14, .int v15, .ref m16, .ref m17, .ref m18, .ref m19, .ref m20, .ref m21, .ref m22, .ref m23, .int v24, .ref m25, .ref m26, .ref m27, .ref m28, .ref m29, .int v30, .ref m31, .ref m32, .ref m33, .int v34, .int v35, .int v36, .ref m37, .ref m38, .ref m39, .ref m40, .long v41])), (m26, .inl (k 0, 8, .inl f26z))] tZ) (va_A [(mo, .inr (12, [.int v0, .ref m1, .ref m2, .ref m3, .ref m4, .ref m5, .int v6, .int v7, .int v8, .int v9, .int v10, .long v11, .int v12, .int v13, .int v14, .int v15, .ref m16, .ref m17, .ref m18, .ref m19, .ref m20, .ref m21, .ref m22, .ref m23, .int v24, .ref m25, .ref m26, .ref m27, .ref m28, .ref m29, .int v30, .ref m31, .ref m32, .ref m33, .int v34, .int v35, .int v36, .ref m37, .ref m38, .ref m39, .ref m40, .long v41])), (m26, .inl (k 0, 8, .inl f26))] sz)) 0 0 (va_A [(mo, .inr (12, [.int v0, .ref m1, .ref m2, .ref m3, .ref m4, .ref m5, .int v6, .int v7, .int v8, .int v9, .int v10, .long v11, .int v12, .int v13, .int v14, .int v15, .ref m16, .ref m17, .ref m18, .ref m19, .ref m20, .ref m21, .ref m22, .ref m23, .int v24, .ref m25, .ref m26, .ref m27, .ref m28, .ref m29, .int v30, .ref m31, .ref m32, .ref m33, .int v34, .int v35, .int v36, .ref m37, .ref m38, .ref m39, .ref m40, .long v41])), (m26, .inl (k 0, 8, .inl f26))] sz) := by
  refine Met.ofW (cc := cX12_never) (maxL := 2) (ret := none) (by decide +kernel) rfl ?_
  intro p e s m args below meth c s₁ B hml hv
  obtain ⟨rfl, hsz, hP, hK, hD0, hN⟩ := hv
  have hx := B.exec
  have hb := B.bytes
  have hr := B.returns
  have hts : ∀ w ∈ TT, w.before _ s = true := fun w h => atoms_spec (ws := ww yX12_never cX12_never 2 none) B.pre w (List.mem_cons_of_mem _ h)
  have hown : s.vm.findClass RX12 = some m.cls := findClass_of_methodNamed B.named
  have hlocks := B.notSynchronized
  subst hsz
  have hD := hD0.self (sz := s.heap.size)
  generalize hAe : va_A [(mo, .inr (12, [.int v0, .ref m1, .ref m2, .ref m3, .ref m4, .ref m5, .int v6, .int v7, .int v8, .int v9, .int v10, .long v11, .int v12, .int v13, .int v14, .int v15, .ref m16, .ref m17, .ref m18, .ref m19, .ref m20, .ref m21, .ref m22, .ref m23, .int v24, .ref m25, .ref m26, .ref m27, .ref m28, .ref m29, .int v30, .ref m31, .ref m32, .ref m33, .int v34, .int v35, .int v36, .ref m37, .ref m38, .ref m39, .ref m40, .long v41])), (m26, .inl (k 0, 8, .inl f26))] s.heap.size = A at hD ⊢
  have hA : ∀ q : Nat, s.heap.size ≤ q → A q := fun q h => by rw [← hAe]; exact Or.inr h
  have hS : va_S A s.heap s.heap [] := va_S.rf
  have hl := lv_entry ([.ref mo]) (n := 2) (Nat.le_of_ble_eq_true rfl)
  rw [lg_entry_eq]
  generalize (lg_sl ([.ref mo]) ++ List.replicate (2 - (lg_sl ([.ref mo])).length) Slot.unset).toArray = ls at hl ⊢
  have hl : lv_has ls 2 [(0, .ref mo)] := hl
  refine lv_iconst (v := 0) hx hb dX12_never_0 (by decide) ?_
  refine lv_istore_n (lv' := [(1, .int 0), (0, .ref mo)]) hx hb dX12_never_1 rfl hl (by decide) rfl (fun ls hl => ?_)
  refine loop_r (Wg := fun H locs ls => W p l e _ s m _ below meth c H locs _ _ _ (F0 m 2 ls [])) (fun n9 H locs ls => ∃ (L2l1 : Int32) (L2a1 : Nat → Int32), n9 = (8 - L2l1.toInt).toNat ∧ (0 ≤ L2l1.toInt ∧ L2l1.toInt ≤ 8) ∧ (PR 8 1 0 0 100000 L2a1) ∧ (FA L2l1.toInt L2a1) ∧ va_P D vwCl [(mo, .inr (12, [.int v0, .ref m1, .ref m2, .ref m3, .ref m4, .ref m5, .int v6, .int v7, .int v8, .int v9, .int v10, .long v11, .int v12, .int v13, .int v14, .int v15, .ref m16, .ref m17, .ref m18, .ref m19, .ref m20, .ref m21, .ref m22, .ref m23, .int v24, .ref m25, .ref m26, .ref m27, .ref m28, .ref m29, .int v30, .ref m31, .ref m32, .ref m33, .int v34, .int v35, .int v36, .ref m37, .ref m38, .ref m39, .ref m40, .long v41])), (m26, .inl (k 0, 8, .inl L2a1))] H ∧ va_D A [(mo, .inr (12, [.int v0, .ref m1, .ref m2, .ref m3, .ref m4, .ref m5, .int v6, .int v7, .int v8, .int v9, .int v10, .long v11, .int v12, .int v13, .int v14, .int v15, .ref m16, .ref m17, .ref m18, .ref m19, .ref m20, .ref m21, .ref m22, .ref m23, .int v24, .ref m25, .ref m26, .ref m27, .ref m28, .ref m29, .int v30, .ref m31, .ref m32, .ref m33, .int v34, .int v35, .int v36, .ref m37, .ref m38, .ref m39, .ref m40, .long v41])), (m26, .inl (k 0, 8, .inl L2a1))] ∧ va_S A s.heap H locs ∧ lv_has ls 2 [(0, .ref mo), (1, .int L2l1)]) (fun n9 H locs ls hI ih_1 => ?_) _ _ _ _ ⟨0, f26, rfl, (show 0 ≤ 0 ∧ 0 ≤ 8 from by omega), hp_f26_0, (FA.zero _), hP.sub (ws' := [(mo, .inr (12, [.int v0, .ref m1, .ref m2, .ref m3, .ref m4, .ref m5, .int v6, .int v7, .int v8, .int v9, .int v10, .long v11, .int v12, .int v13, .int v14, .int v15, .ref m16, .ref m17, .ref m18, .ref m19, .ref m20, .ref m21, .ref m22, .ref m23, .int v24, .ref m25, .ref m26, .ref m27, .ref m28, .ref m29, .int v30, .ref m31, .ref m32, .ref m33, .int v34, .int v35, .int v36, .ref m37, .ref m38, .ref m39, .ref m40, .long v41])), (m26, .inl (k 0, 8, .inl f26))]) [0, 1] rfl, hD.sub (ws' := [(mo, .inr (12, [.int v0, .ref m1, .ref m2, .ref m3, .ref m4, .ref m5, .int v6, .int v7, .int v8, .int v9, .int v10, .long v11, .int v12, .int v13, .int v14, .int v15, .ref m16, .ref m17, .ref m18, .ref m19, .ref m20, .ref m21, .ref m22, .ref m23, .int v24, .ref m25, .ref m26, .ref m27, .ref m28, .ref m29, .int v30, .ref m31, .ref m32, .ref m33, .int v34, .int v35, .int v36, .ref m37, .ref m38, .ref m39, .ref m40, .long v41])), (m26, .inl (k 0, 8, .inl f26))]) [0, 1] (by decide) rfl, hS, lv_sub hl [1, 0] rfl⟩
  clear hP hD hS hl
  obtain ⟨L2l1, L2a1, en_2, zL2l1, L2a1h0, hi2x0, hP, hD, hS, hl⟩ := hI
  refine lv_iload_n hx hb dX12_never_2 rfl (lv_at hl 1 rfl) ?_
  refine lv_bipush (v := 8) hx hb dX12_never_3 (by decide) ?_
  refine lv_icmp_ge (tgt := 22) hx hb dX12_never_5 (by decide) (fun h_3 => ?_) (fun h_3 => ?_)
  · skip
    have zh_3 : 8 ≤ L2l1.toInt := z_le h_3
    have hP9 := hP.sub (ws' := [(mo, .inr (12, [.int v0, .ref m1, .ref m2, .ref m3, .ref m4, .ref m5, .int v6, .int v7, .int v8, .int v9, .int v10, .long v11, .int v12, .int v13, .int v14, .int v15, .ref m16, .ref m17, .ref m18, .ref m19, .ref m20, .ref m21, .ref m22, .ref m23, .int v24, .ref m25, .ref m26, .ref m27, .ref m28, .ref m29, .int v30, .ref m31, .ref m32, .ref m33, .int v34, .int v35, .int v36, .ref m37, .ref m38, .ref m39, .ref m40, .long v41])), (m26, .inl (k 0, 8, .inl L2a1))]) [0, 1] rfl
    have hD9 := hD.sub (ws' := [(mo, .inr (12, [.int v0, .ref m1, .ref m2, .ref m3, .ref m4, .ref m5, .int v6, .int v7, .int v8, .int v9, .int v10, .long v11, .int v12, .int v13, .int v14, .int v15, .ref m16, .ref m17, .ref m18, .ref m19, .ref m20, .ref m21, .ref m22, .ref m23, .int v24, .ref m25, .ref m26, .ref m27, .ref m28, .ref m29, .int v30, .ref m31, .ref m32, .ref m33, .int v34, .int v35, .int v36, .ref m37, .ref m38, .ref m39, .ref m40, .long v41])), (m26, .inl (k 0, 8, .inl L2a1))]) [0, 1] (by decide) rfl
    exact W.vret hx hb hr (fun tZ ht hW => ⟨⟨L2a1, rfl, ⟨L2a1h0, (MN.never hi2x0 (by omega))⟩, by rw [ht]; exact hP9, va_K.moved hW.alike hK, hD9⟩, hS.F ht⟩) hS.2.2 dX12_never_22
  · skip
    have zh_3 : L2l1.toInt < 8 := z_nle h_3
    refine lv_aload_n hx hb dX12_never_8 rfl (lv_at hl 0 rfl) ?_
    refine va_get (D := D) (ci := 12) (v := .ref m26) (C := RX12) (T := TX12) (N := 42) hx hb hts iT_X12 hown hK hP 0 rfl rfl 26 (by decide) (hts _ tw_6_79) (fun _ h9 => h9) rfl dX12_never_9 ?_
    refine lv_iload_n hx hb dX12_never_12 rfl (lv_at hl 1 rfl) ?_
    refine lv_ldc (v := 100000) hx hb hown (hts _ tw_7_5) dX12_never_13 ?_
    refine va_iast hx hb hK hP hD hS 1 0 rfl rfl (z_in (by omega) (by omega)) dX12_never_15 (fun H locs hP hD hS => ?_)
    obtain ⟨g_4, eg_4⟩ : ∃ z : Nat → Int32, upd L2a1 L2l1.toNatClampNeg 100000 = z := ⟨_, rfl⟩
    have hP : va_P D vwCl [(mo, .inr (12, [.int v0, .ref m1, .ref m2, .ref m3, .ref m4, .ref m5, .int v6, .int v7, .int v8, .int v9, .int v10, .long v11, .int v12, .int v13, .int v14, .int v15, .ref m16, .ref m17, .ref m18, .ref m19, .ref m20, .ref m21, .ref m22, .ref m23, .int v24, .ref m25, .ref m26, .ref m27, .ref m28, .ref m29, .int v30, .ref m31, .ref m32, .ref m33, .int v34, .int v35, .int v36, .ref m37, .ref m38, .ref m39, .ref m40, .long v41])), (m26, .inl (k 0, 8, .inl (upd L2a1 L2l1.toNatClampNeg 100000)))] H := hP
    have hD : va_D A [(mo, .inr (12, [.int v0, .ref m1, .ref m2, .ref m3, .ref m4, .ref m5, .int v6, .int v7, .int v8, .int v9, .int v10, .long v11, .int v12, .int v13, .int v14, .int v15, .ref m16, .ref m17, .ref m18, .ref m19, .ref m20, .ref m21, .ref m22, .ref m23, .int v24, .ref m25, .ref m26, .ref m27, .ref m28, .ref m29, .int v30, .ref m31, .ref m32, .ref m33, .int v34, .int v35, .int v36, .ref m37, .ref m38, .ref m39, .ref m40, .long v41])), (m26, .inl (k 0, 8, .inl (upd L2a1 L2l1.toNatClampNeg 100000)))] := hD
    rw [eg_4] at hP hD
    have hp_5 : PR 8 1 0 0 100000 g_4 := by rw [← eg_4]; exact PR.put L2a1h0 ⟨by decide, by decide⟩
    obtain ⟨x_6, ex_6⟩ : ∃ y : Int32, y = L2l1 + 1 := ⟨_, rfl⟩
    have zx_6 : x_6.toInt = L2l1.toInt + 1 := by rw [ex_6]; exact z_add rfl rfl (by omega) (by omega)
    refine lv_iinc (v := x_6) (lv' := [(1, .int x_6), (0, .ref mo)]) hx hb dX12_never_16 hl (k := 1) rfl (by rw [ex_6]; rfl) (by decide) rfl (fun ls hl => ?_)
    refine lv_goto (tgt := 2) hx hb dX12_never_19 (by decide) ?_
    exact ih_1 _ _ _ _ (by omega) ⟨x_6, g_4, rfl, (show 0 ≤ x_6.toInt ∧ x_6.toInt ≤ 8 from by omega), hp_5, (show FA x_6.toInt g_4 from by rw [← eg_4]; exact FA.step hi2x0 (b := L2l1) (by omega) (by omega) (by omega)), hP.sub (ws' := [(mo, .inr (12, [.int v0, .ref m1, .ref m2, .ref m3, .ref m4, .ref m5, .int v6, .int v7, .int v8, .int v9, .int v10, .long v11, .int v12, .int v13, .int v14, .int v15, .ref m16, .ref m17, .ref m18, .ref m19, .ref m20, .ref m21, .ref m22, .ref m23, .int v24, .ref m25, .ref m26, .ref m27, .ref m28, .ref m29, .int v30, .ref m31, .ref m32, .ref m33, .int v34, .int v35, .int v36, .ref m37, .ref m38, .ref m39, .ref m40, .long v41])), (m26, .inl (k 0, 8, .inl g_4))]) [0, 1] rfl, hD.sub (ws' := [(mo, .inr (12, [.int v0, .ref m1, .ref m2, .ref m3, .ref m4, .ref m5, .int v6, .int v7, .int v8, .int v9, .int v10, .long v11, .int v12, .int v13, .int v14, .int v15, .ref m16, .ref m17, .ref m18, .ref m19, .ref m20, .ref m21, .ref m22, .ref m23, .int v24, .ref m25, .ref m26, .ref m27, .ref m28, .ref m29, .int v30, .ref m31, .ref m32, .ref m33, .int v34, .int v35, .int v36, .ref m37, .ref m38, .ref m39, .ref m40, .long v41])), (m26, .inl (k 0, 8, .inl g_4))]) [0, 1] (by decide) rfl, hS, lv_sub hl [1, 0] rfl⟩
set_option maxHeartbeats 4000000 in
set_option maxRecDepth 100000 in
theorem c_X12_darkens (l : Launch) (D : va_G) (k : Nat → ClassId) (mo : Nat) (p0 : Int32) (p1 : Int32) (v0 : Int32) (m1 : Nat) (m2 : Nat) (m3 : Nat) (m4 : Nat) (m5 : Nat) (v6 : Int32) (v7 : Int32) (v8 : Int32) (v9 : Int32) (v10 : Int32) (v11 : Int64) (v12 : Int32) (v13 : Int32) (v14 : Int32) (v15 : Int32) (m16 : Nat) (m17 : Nat) (m18 : Nat) (m19 : Nat) (m20 : Nat) (m21 : Nat) (m22 : Nat) (m23 : Nat) (v24 : Int32) (m25 : Nat) (m26 : Nat) (m27 : Nat) (m28 : Nat) (m29 : Nat) (v30 : Int32) (m31 : Nat) (m32 : Nat) (m33 : Nat) (v34 : Int32) (v35 : Int32) (v36 : Int32) (m37 : Nat) (m38 : Nat) (m39 : Nat) (m40 : Nat) (v41 : Int64) (f17 : Nat → Int32) (f18 : Nat → Int32) (f19 : Nat → Int32) (f25 : Nat → Int32) (f26 : Nat → Int32) (sz : Nat) (h_v6 : 0 ≤ v6.toInt ∧ v6.toInt ≤ 1000) (h_v24 : 0 ≤ v24.toInt ∧ v24.toInt ≤ 1023) (hp_f17_0 : PR 30 6 0 0 8 f17) (hp_f17_1 : PR 30 6 1 0 10 f17) (hp_f17_2 : PR 30 6 2 0 4 f17) (hp_f17_3 : PR 30 6 3 0 6 f17) (hp_f17_4 : PR 30 6 4 0 2 f17) (hp_f17_5 : PR 30 6 5 0 40 f17) (hp_f18_0 : PR 250 5 0 0 7 f18) (hp_f18_1 : PR 250 5 1 0 7 f18) (hp_f18_2 : PR 250 5 2 0 60 f18) (hp_f18_3 : PR 250 5 3 0 10 f18) (hp_f19_0 : PR 40 2 0 0 7 f19) (hp_f19_1 : PR 40 2 1 0 99 f19) (hp_f25_0 : PR 4 1 0 0 129 f25) (hp_f26_0 : PR 8 1 0 0 100000 f26) : Met l yX12_darkens (ww yX12_darkens cX12_darkens 4 none) ({ frames := 3, cells := 0, slots := 0, locals := 69 }) (Pre0 D k [(mo, .inr (12, [.int v0, .ref m1, .ref m2, .ref m3, .ref m4, .ref m5, .int v6, .int v7, .int v8, .int v9, .int v10, .long v11, .int v12, .int v13, .int v14, .int v15, .ref m16, .ref m17, .ref m18, .ref m19, .ref m20, .ref m21, .ref m22, .ref m23, .int v24, .ref m25, .ref m26, .ref m27, .ref m28, .ref m29, .int v30, .ref m31, .ref m32, .ref m33, .int v34, .int v35, .int v36, .ref m37, .ref m38, .ref m39, .ref m40, .long v41])), (m17, .inl (k 0, 30, .inl f17)), (m18, .inl (k 0, 250, .inl f18)), (m19, .inl (k 0, 40, .inl f19)), (m25, .inl (k 0, 4, .inl f25)), (m26, .inl (k 0, 8, .inl f26))] sz [.ref mo, .int p0, .int p1]) (va_Qv (fun (f26z : (Nat → Int32)) => (PR 8 1 0 0 100000 f26z) ∧ (MN f26z)) (fun (f26z : (Nat → Int32)) tZ => Bw D k (va_A [(mo, .inr (12, [.int v0, .ref m1, .ref m2, .ref m3, .ref m4, .ref m5, .int v6, .int v7, .int v8, .int v9, .int v10, .long v11, .int v12, .int v13, .int v14, .int v15, .ref m16, .ref m17, .ref m18, .ref m19, .ref m20, .ref m21, .ref m22, .ref m23, .int v24, .ref m25, .ref m26, .ref m27, .ref m28, .ref m29, .int v30, .ref m31, .ref m32, .ref m33, .int v34, .int v35, .int v36, .ref m37, .ref m38, .ref m39, .ref m40, .long v41])), (m17, .inl (k 0, 30, .inl f17)), (m18, .inl (k 0, 250, .inl f18)), (m19, .inl (k 0, 40, .inl f19)), (m25, .inl (k 0, 4, .inl f25)), (m26, .inl (k 0, 8, .inl f26))] sz) [(mo, .inr (12, [.int v0, .ref m1, .ref m2, .ref m3, .ref m4, .ref m5, .int v6, .int v7, .int v8, .int v9, .int v10, .long v11, .int v12, .int v13, .int v14, .int v15, .ref m16, .ref m17, .ref m18, .ref m19, .ref m20, .ref m21, .ref m22, .ref m23, .int v24, .ref m25, .ref m26, .ref m27, .ref m28, .ref m29, .int v30, .ref m31, .ref m32, .ref m33, .int v34, .int v35, .int v36, .ref m37, .ref m38, .ref m39, .ref m40, .long v41])), (m17, .inl (k 0, 30, .inl f17)), (m18, .inl (k 0, 250, .inl f18)), (m19, .inl (k 0, 40, .inl f19)), (m25, .inl (k 0, 4, .inl f25)), (m26, .inl (k 0, 8, .inl f26z))] tZ) (va_A [(mo, .inr (12, [.int v0, .ref m1, .ref m2, .ref m3, .ref m4, .ref m5, .int v6, .int v7, .int v8, .int v9, .int v10, .long v11, .int v12, .int v13, .int v14, .int v15, .ref m16, .ref m17, .ref m18, .ref m19, .ref m20, .ref m21, .ref m22, .ref m23, .int v24, .ref m25, .ref m26, .ref m27, .ref m28, .ref m29, .int v30, .ref m31, .ref m32, .ref m33, .int v34, .int v35, .int v36, .ref m37, .ref m38, .ref m39, .ref m40, .long v41])), (m17, .inl (k 0, 30, .inl f17)), (m18, .inl (k 0, 250, .inl f18)), (m19, .inl (k 0, 40, .inl f19)), (m25, .inl (k 0, 4, .inl f25)), (m26, .inl (k 0, 8, .inl f26))] sz)) 0 0 (va_A [(mo, .inr (12, [.int v0, .ref m1, .ref m2, .ref m3, .ref m4, .ref m5, .int v6, .int v7, .int v8, .int v9, .int v10, .long v11, .int v12, .int v13, .int v14, .int v15, .ref m16, .ref m17, .ref m18, .ref m19, .ref m20, .ref m21, .ref m22, .ref m23, .int v24, .ref m25, .ref m26, .ref m27, .ref m28, .ref m29, .int v30, .ref m31, .ref m32, .ref m33, .int v34, .int v35, .int v36, .ref m37, .ref m38, .ref m39, .ref m40, .long v41])), (m17, .inl (k 0, 30, .inl f17)), (m18, .inl (k 0, 250, .inl f18)), (m19, .inl (k 0, 40, .inl f19)), (m25, .inl (k 0, 4, .inl f25)), (m26, .inl (k 0, 8, .inl f26))] sz) := by
  refine Met.ofW (cc := cX12_darkens) (maxL := 4) (ret := none) (by decide +kernel) rfl ?_
  intro p e s m args below meth c s₁ B hml hv
  obtain ⟨rfl, hsz, hP, hK, hD0, hN⟩ := hv
  have hx := B.exec
  have hb := B.bytes
  have hr := B.returns
  have hts : ∀ w ∈ TT, w.before _ s = true := fun w h => atoms_spec (ws := ww yX12_darkens cX12_darkens 4 none) B.pre w (List.mem_cons_of_mem _ h)
  have hown : s.vm.findClass RX12 = some m.cls := findClass_of_methodNamed B.named
  have hlocks := B.notSynchronized
  subst hsz
  have hD := hD0.self (sz := s.heap.size)
  generalize hAe : va_A [(mo, .inr (12, [.int v0, .ref m1, .ref m2, .ref m3, .ref m4, .ref m5, .int v6, .int v7, .int v8, .int v9, .int v10, .long v11, .int v12, .int v13, .int v14, .int v15, .ref m16, .ref m17, .ref m18, .ref m19, .ref m20, .ref m21, .ref m22, .ref m23, .int v24, .ref m25, .ref m26, .ref m27, .ref m28, .ref m29, .int v30, .ref m31, .ref m32, .ref m33, .int v34, .int v35, .int v36, .ref m37, .ref m38, .ref m39, .ref m40, .long v41])), (m17, .inl (k 0, 30, .inl f17)), (m18, .inl (k 0, 250, .inl f18)), (m19, .inl (k 0, 40, .inl f19)), (m25, .inl (k 0, 4, .inl f25)), (m26, .inl (k 0, 8, .inl f26))] s.heap.size = A at hD ⊢
  have hA : ∀ q : Nat, s.heap.size ≤ q → A q := fun q h => by rw [← hAe]; exact Or.inr h
  have hS : va_S A s.heap s.heap [] := va_S.rf
  have hl := lv_entry ([.ref mo, .int p0, .int p1]) (n := 4) (Nat.le_of_ble_eq_true rfl)
  rw [lg_entry_eq]
  generalize (lg_sl ([.ref mo, .int p0, .int p1]) ++ List.replicate (4 - (lg_sl ([.ref mo, .int p0, .int p1])).length) Slot.unset).toArray = ls at hl ⊢
  have hl : lv_has ls 4 [(0, .ref mo), (1, .int p0), (2, .int p1)] := hl
  refine lv_aload_n hx hb dX12_darkens_0 rfl (lv_at hl 0 rfl) ?_
  have hPc := hP.sub (ws' := [(mo, .inr (12, [.int v0, .ref m1, .ref m2, .ref m3, .ref m4, .ref m5, .int v6, .int v7, .int v8, .int v9, .int v10, .long v11, .int v12, .int v13, .int v14, .int v15, .ref m16, .ref m17, .ref m18, .ref m19, .ref m20, .ref m21, .ref m22, .ref m23, .int v24, .ref m25, .ref m26, .ref m27, .ref m28, .ref m29, .int v30, .ref m31, .ref m32, .ref m33, .int v34, .int v35, .int v36, .ref m37, .ref m38, .ref m39, .ref m40, .long v41])), (m26, .inl (k 0, 8, .inl f26))]) [0, 5] rfl
  have hDc := hD.sub (ws' := [(mo, .inr (12, [.int v0, .ref m1, .ref m2, .ref m3, .ref m4, .ref m5, .int v6, .int v7, .int v8, .int v9, .int v10, .long v11, .int v12, .int v13, .int v14, .int v15, .ref m16, .ref m17, .ref m18, .ref m19, .ref m20, .ref m21, .ref m22, .ref m23, .int v24, .ref m25, .ref m26, .ref m27, .ref m28, .ref m29, .int v30, .ref m31, .ref m32, .ref m33, .int v34, .int v35, .int v36, .ref m37, .ref m38, .ref m39, .ref m40, .long v41])), (m26, .inl (k 0, 8, .inl f26))]) [0, 5] (by decide) rfl
  have hFc := va_free (wc := [(mo, .inr (12, [.int v0, .ref m1, .ref m2, .ref m3, .ref m4, .ref m5, .int v6, .int v7, .int v8, .int v9, .int v10, .long v11, .int v12, .int v13, .int v14, .int v15, .ref m16, .ref m17, .ref m18, .ref m19, .ref m20, .ref m21, .ref m22, .ref m23, .int v24, .ref m25, .ref m26, .ref m27, .ref m28, .ref m29, .int v30, .ref m31, .ref m32, .ref m33, .int v34, .int v35, .int v36, .ref m37, .ref m38, .ref m39, .ref m40, .long v41])), (m26, .inl (k 0, 8, .inl f26))]) hD hS hA [0, 5] rfl
  refine va_callv (va_runV (C := RX12) (As := []) (rest := []) ⟨hx, hb, hml, hown, hts⟩ (c_X12_never l D k mo v0 m1 m2 m3 m4 m5 v6 v7 v8 v9 v10 v11 v12 v13 v14 v15 m16 m17 m18 m19 m20 m21 m22 m23 v24 m25 m26 m27 m28 m29 v30 m31 m32 m33 v34 v35 v36 m37 m38 m39 m40 v41 f26 s.heap.size (show 0 ≤ v6.toInt ∧ v6.toInt ≤ 1000 from by omega) (show 0 ≤ v24.toInt ∧ v24.toInt ≤ 1023 from by omega) hp_f26_0) (cwV 0 hts (gV tw_7_145 tw_7_147 tw_p_65 tw_1_13 tw_7_148) rfl rfl rfl hdV_X12_never ⟨Nat.le_of_ble_eq_true rfl, Nat.le_of_ble_eq_true rfl⟩) (cz_V hK hPc hDc hN (ci := 12) (q0 := 0) rfl rfl []) rfl rfl hl.1 rfl (lv_room (Nat.le_of_ble_eq_true rfl)) dX12_darkens_1 ⟨Nat.le_of_ble_eq_true rfl, Nat.le_of_ble_eq_true rfl⟩) hS (fun q _ h => hFc q h) hFc (fun uZ tZ H1 locs ht hvm hw hB hz1 hk1 hS => ?_)
  obtain ⟨o_2, rfl⟩ : ∃ z, z = uZ := ⟨_, rfl⟩
  obtain ⟨hP1, hK1, hD1⟩ := hB
  rw [ht] at hP1
  obtain ⟨hP, hD⟩ := va_join (wr := [(m17, .inl (k 0, 30, .inl f17)), (m18, .inl (k 0, 250, .inl f18)), (m19, .inl (k 0, 40, .inl f19)), (m25, .inl (k 0, 4, .inl f25))]) (w1 := [(mo, .inr (12, [.int v0, .ref m1, .ref m2, .ref m3, .ref m4, .ref m5, .int v6, .int v7, .int v8, .int v9, .int v10, .long v11, .int v12, .int v13, .int v14, .int v15, .ref m16, .ref m17, .ref m18, .ref m19, .ref m20, .ref m21, .ref m22, .ref m23, .int v24, .ref m25, .ref m26, .ref m27, .ref m28, .ref m29, .int v30, .ref m31, .ref m32, .ref m33, .int v34, .int v35, .int v36, .ref m37, .ref m38, .ref m39, .ref m40, .long v41])), (m26, .inl (k 0, 8, .inl o_2))]) hP hD [0, 5] [1, 2, 3, 4] rfl rfl (by decide) (by decide) hk1 hFc hP1 hD1
  clear hK1 hP1 hD1 hPc hDc hFc
  clear hk1 hz1 ht hvm
  have hP : va_P D vwCl [(m17, .inl (k 0, 30, .inl f17)), (m18, .inl (k 0, 250, .inl f18)), (m19, .inl (k 0, 40, .inl f19)), (m25, .inl (k 0, 4, .inl f25)), (mo, .inr (12, [.int v0, .ref m1, .ref m2, .ref m3, .ref m4, .ref m5, .int v6, .int v7, .int v8, .int v9, .int v10, .long v11, .int v12, .int v13, .int v14, .int v15, .ref m16, .ref m17, .ref m18, .ref m19, .ref m20, .ref m21, .ref m22, .ref m23, .int v24, .ref m25, .ref m26, .ref m27, .ref m28, .ref m29, .int v30, .ref m31, .ref m32, .ref m33, .int v34, .int v35, .int v36, .ref m37, .ref m38, .ref m39, .ref m40, .long v41])), (m26, .inl (k 0, 8, .inl o_2))] H1 := hP
  have hD : va_D A [(m17, .inl (k 0, 30, .inl f17)), (m18, .inl (k 0, 250, .inl f18)), (m19, .inl (k 0, 40, .inl f19)), (m25, .inl (k 0, 4, .inl f25)), (mo, .inr (12, [.int v0, .ref m1, .ref m2, .ref m3, .ref m4, .ref m5, .int v6, .int v7, .int v8, .int v9, .int v10, .long v11, .int v12, .int v13, .int v14, .int v15, .ref m16, .ref m17, .ref m18, .ref m19, .ref m20, .ref m21, .ref m22, .ref m23, .int v24, .ref m25, .ref m26, .ref m27, .ref m28, .ref m29, .int v30, .ref m31, .ref m32, .ref m33, .int v34, .int v35, .int v36, .ref m37, .ref m38, .ref m39, .ref m40, .long v41])), (m26, .inl (k 0, 8, .inl o_2))] := hD
  generalize H1 = H at hP hS ⊢
  have hw_3 : (PR 8 1 0 0 100000 o_2) ∧ (MN o_2) := hw
  obtain ⟨hw_4, hw_5⟩ := hw_3
  clear hw
  refine lv_iconst (v := 0) hx hb dX12_darkens_4 (by decide) ?_
  refine lv_istore_n (lv' := [(3, .int 0), (0, .ref mo), (1, .int p0), (2, .int p1)]) hx hb dX12_darkens_5 rfl hl (by decide) rfl (fun ls hl => ?_)
  refine loop_r (Wg := fun H locs ls => W p l e _ s m _ below meth c H locs _ _ _ (F0 m 6 ls [])) (fun n9 H locs ls => ∃ (L6l3 : Int32) (L6a5 : Nat → Int32), n9 = (4 - L6l3.toInt).toNat ∧ (0 ≤ L6l3.toInt ∧ L6l3.toInt ≤ 4) ∧ (PR 8 1 0 0 100000 L6a5) ∧ (MN L6a5) ∧ va_P D vwCl [(m17, .inl (k 0, 30, .inl f17)), (m18, .inl (k 0, 250, .inl f18)), (m19, .inl (k 0, 40, .inl f19)), (m25, .inl (k 0, 4, .inl f25)), (mo, .inr (12, [.int v0, .ref m1, .ref m2, .ref m3, .ref m4, .ref m5, .int v6, .int v7, .int v8, .int v9, .int v10, .long v11, .int v12, .int v13, .int v14, .int v15, .ref m16, .ref m17, .ref m18, .ref m19, .ref m20, .ref m21, .ref m22, .ref m23, .int v24, .ref m25, .ref m26, .ref m27, .ref m28, .ref m29, .int v30, .ref m31, .ref m32, .ref m33, .int v34, .int v35, .int v36, .ref m37, .ref m38, .ref m39, .ref m40, .long v41])), (m26, .inl (k 0, 8, .inl L6a5))] H ∧ va_D A [(m17, .inl (k 0, 30, .inl f17)), (m18, .inl (k 0, 250, .inl f18)), (m19, .inl (k 0, 40, .inl f19)), (m25, .inl (k 0, 4, .inl f25)), (mo, .inr (12, [.int v0, .ref m1, .ref m2, .ref m3, .ref m4, .ref m5, .int v6, .int v7, .int v8, .int v9, .int v10, .long v11, .int v12, .int v13, .int v14, .int v15, .ref m16, .ref m17, .ref m18, .ref m19, .ref m20, .ref m21, .ref m22, .ref m23, .int v24, .ref m25, .ref m26, .ref m27, .ref m28, .ref m29, .int v30, .ref m31, .ref m32, .ref m33, .int v34, .int v35, .int v36, .ref m37, .ref m38, .ref m39, .ref m40, .long v41])), (m26, .inl (k 0, 8, .inl L6a5))] ∧ va_S A s.heap H locs ∧ lv_has ls 4 [(0, .ref mo), (1, .int p0), (2, .int p1), (3, .int L6l3)]) (fun n9 H locs ls hI ih_6 => ?_) _ _ _ _ ⟨0, o_2, rfl, (show 0 ≤ 0 ∧ 0 ≤ 4 from by omega), hw_4, hw_5, hP.sub (ws' := [(m17, .inl (k 0, 30, .inl f17)), (m18, .inl (k 0, 250, .inl f18)), (m19, .inl (k 0, 40, .inl f19)), (m25, .inl (k 0, 4, .inl f25)), (mo, .inr (12, [.int v0, .ref m1, .ref m2, .ref m3, .ref m4, .ref m5, .int v6, .int v7, .int v8, .int v9, .int v10, .long v11, .int v12, .int v13, .int v14, .int v15, .ref m16, .ref m17, .ref m18, .ref m19, .ref m20, .ref m21, .ref m22, .ref m23, .int v24, .ref m25, .ref m26, .ref m27, .ref m28, .ref m29, .int v30, .ref m31, .ref m32, .ref m33, .int v34, .int v35, .int v36, .ref m37, .ref m38, .ref m39, .ref m40, .long v41])), (m26, .inl (k 0, 8, .inl o_2))]) [0, 1, 2, 3, 4, 5] rfl, hD.sub (ws' := [(m17, .inl (k 0, 30, .inl f17)), (m18, .inl (k 0, 250, .inl f18)), (m19, .inl (k 0, 40, .inl f19)), (m25, .inl (k 0, 4, .inl f25)), (mo, .inr (12, [.int v0, .ref m1, .ref m2, .ref m3, .ref m4, .ref m5, .int v6, .int v7, .int v8, .int v9, .int v10, .long v11, .int v12, .int v13, .int v14, .int v15, .ref m16, .ref m17, .ref m18, .ref m19, .ref m20, .ref m21, .ref m22, .ref m23, .int v24, .ref m25, .ref m26, .ref m27, .ref m28, .ref m29, .int v30, .ref m31, .ref m32, .ref m33, .int v34, .int v35, .int v36, .ref m37, .ref m38, .ref m39, .ref m40, .long v41])), (m26, .inl (k 0, 8, .inl o_2))]) [0, 1, 2, 3, 4, 5] (by decide) rfl, hS, lv_sub hl [1, 2, 3, 0] rfl⟩
  clear hP hD hS hl
  obtain ⟨L6l3, L6a5, en_7, zL6l3, L6a5h0, L6a5h1, hP, hD, hS, hl⟩ := hI
  refine lv_iload_n hx hb dX12_darkens_6 rfl (lv_at hl 3 rfl) ?_
  refine lv_aload_n hx hb dX12_darkens_7 rfl (lv_at hl 0 rfl) ?_
  refine va_get (D := D) (ci := 12) (v := .ref m17) (C := RX12) (T := TX12) (N := 42) hx hb hts iT_X12 hown hK hP 4 rfl rfl 17 (by decide) (hts _ tw_6_70) (fun _ h9 => h9) rfl dX12_darkens_8 ?_
  refine lv_iconst (v := 2) hx hb dX12_darkens_11 (by decide) ?_
  refine va_iald hx hb hK hP 0 0 rfl rfl (z_in (by decide) (by decide)) dX12_darkens_12 ?_
  refine lv_topi (fun x_8 ex_8 => ?_)
  have zx_8r2 : 0 ≤ x_8.toInt ∧ x_8.toInt ≤ 4 := by rw [ex_8]; exact PR.ld hp_f17_2 (by decide) (by decide) (by decide)
  refine lv_icmp_ge (tgt := 40) hx hb dX12_darkens_13 (by decide) (fun h_9 => ?_) (fun h_9 => ?_)
  · skip
    have zh_9 : x_8.toInt ≤ L6l3.toInt := z_le h_9
    refine lv_aload_n hx hb dX12_darkens_40 rfl (lv_at hl 0 rfl) ?_
    refine lv_iload_n hx hb dX12_darkens_41 rfl (lv_at hl 1 rfl) ?_
    refine lv_iload_n hx hb dX12_darkens_42 rfl (lv_at hl 2 rfl) ?_
    have hPc := hP.sub (ws' := [(mo, .inr (12, [.int v0, .ref m1, .ref m2, .ref m3, .ref m4, .ref m5, .int v6, .int v7, .int v8, .int v9, .int v10, .long v11, .int v12, .int v13, .int v14, .int v15, .ref m16, .ref m17, .ref m18, .ref m19, .ref m20, .ref m21, .ref m22, .ref m23, .int v24, .ref m25, .ref m26, .ref m27, .ref m28, .ref m29, .int v30, .ref m31, .ref m32, .ref m33, .int v34, .int v35, .int v36, .ref m37, .ref m38, .ref m39, .ref m40, .long v41])), (m17, .inl (k 0, 30, .inl f17)), (m18, .inl (k 0, 250, .inl f18)), (m26, .inl (k 0, 8, .inl L6a5))]) [4, 0, 1, 5] rfl
    have hDc := hD.sub (ws' := [(mo, .inr (12, [.int v0, .ref m1, .ref m2, .ref m3, .ref m4, .ref m5, .int v6, .int v7, .int v8, .int v9, .int v10, .long v11, .int v12, .int v13, .int v14, .int v15, .ref m16, .ref m17, .ref m18, .ref m19, .ref m20, .ref m21, .ref m22, .ref m23, .int v24, .ref m25, .ref m26, .ref m27, .ref m28, .ref m29, .int v30, .ref m31, .ref m32, .ref m33, .int v34, .int v35, .int v36, .ref m37, .ref m38, .ref m39, .ref m40, .long v41])), (m17, .inl (k 0, 30, .inl f17)), (m18, .inl (k 0, 250, .inl f18)), (m26, .inl (k 0, 8, .inl L6a5))]) [4, 0, 1, 5] (by decide) rfl
    have hFc := va_free (wc := [(mo, .inr (12, [.int v0, .ref m1, .ref m2, .ref m3, .ref m4, .ref m5, .int v6, .int v7, .int v8, .int v9, .int v10, .long v11, .int v12, .int v13, .int v14, .int v15, .ref m16, .ref m17, .ref m18, .ref m19, .ref m20, .ref m21, .ref m22, .ref m23, .int v24, .ref m25, .ref m26, .ref m27, .ref m28, .ref m29, .int v30, .ref m31, .ref m32, .ref m33, .int v34, .int v35, .int v36, .ref m37, .ref m38, .ref m39, .ref m40, .long v41])), (m17, .inl (k 0, 30, .inl f17)), (m18, .inl (k 0, 250, .inl f18)), (m26, .inl (k 0, 8, .inl L6a5))]) hD hS hA [4, 0, 1, 5] rfl
    refine va_callv (va_runV (C := RX12) (As := [.int p0, .int p1]) (rest := []) ⟨hx, hb, hml, hown, hts⟩ (c_X12_lowers_0 l D k mo p0 p1 v0 m1 m2 m3 m4 m5 v6 v7 v8 v9 v10 v11 v12 v13 v14 v15 m16 m17 m18 m19 m20 m21 m22 m23 v24 m25 m26 m27 m28 m29 v30 m31 m32 m33 v34 v35 v36 m37 m38 m39 m40 v41 f17 f18 L6a5 H.size (show 0 ≤ v6.toInt ∧ v6.toInt ≤ 1000 from by omega) (show 0 ≤ v24.toInt ∧ v24.toInt ≤ 1023 from by omega) hp_f17_0 hp_f17_1 hp_f17_2 hp_f17_3 hp_f17_4 hp_f17_5 hp_f18_0 hp_f18_1 hp_f18_2 hp_f18_3 L6a5h0 L6a5h1) (cwV 2 hts (gV tw_7_153 tw_7_155 tw_p_67 tw_1_13 tw_7_156) rfl rfl rfl hdV_X12_lowers ⟨Nat.le_of_ble_eq_true rfl, Nat.le_of_ble_eq_true rfl⟩) (cz_V hK hPc hDc hN (ci := 12) (q0 := 0) rfl rfl [.int p0, .int p1]) rfl rfl hl.1 rfl (lv_room (Nat.le_of_ble_eq_true rfl)) dX12_darkens_43 ⟨Nat.le_of_ble_eq_true rfl, Nat.le_of_ble_eq_true rfl⟩) hS (fun q _ h => hFc q h) hFc (fun uZ tZ H1 locs ht hvm hw hB hz1 hk1 hS => ?_)
    obtain ⟨o_11, rfl⟩ : ∃ z, z = uZ := ⟨_, rfl⟩
    obtain ⟨hP1, hK1, hD1⟩ := hB
    rw [ht] at hP1
    obtain ⟨hP, hD⟩ := va_join (wr := [(m19, .inl (k 0, 40, .inl f19)), (m25, .inl (k 0, 4, .inl f25))]) (w1 := [(mo, .inr (12, [.int v0, .ref m1, .ref m2, .ref m3, .ref m4, .ref m5, .int v6, .int v7, .int v8, .int v9, .int v10, .long v11, .int v12, .int v13, .int v14, .int v15, .ref m16, .ref m17, .ref m18, .ref m19, .ref m20, .ref m21, .ref m22, .ref m23, .int v24, .ref m25, .ref m26, .ref m27, .ref m28, .ref m29, .int v30, .ref m31, .ref m32, .ref m33, .int v34, .int v35, .int v36, .ref m37, .ref m38, .ref m39, .ref m40, .long v41])), (m17, .inl (k 0, 30, .inl f17)), (m18, .inl (k 0, 250, .inl f18)), (m26, .inl (k 0, 8, .inl o_11))]) hP hD [4, 0, 1, 5] [2, 3] rfl rfl (by decide) (by decide) hk1 hFc hP1 hD1
    clear hK1 hP1 hD1 hPc hDc hFc
    clear hk1 hz1 ht hvm
    have hP : va_P D vwCl [(m19, .inl (k 0, 40, .inl f19)), (m25, .inl (k 0, 4, .inl f25)), (mo, .inr (12, [.int v0, .ref m1, .ref m2, .ref m3, .ref m4, .ref m5, .int v6, .int v7, .int v8, .int v9, .int v10, .long v11, .int v12, .int v13, .int v14, .int v15, .ref m16, .ref m17, .ref m18, .ref m19, .ref m20, .ref m21, .ref m22, .ref m23, .int v24, .ref m25, .ref m26, .ref m27, .ref m28, .ref m29, .int v30, .ref m31, .ref m32, .ref m33, .int v34, .int v35, .int v36, .ref m37, .ref m38, .ref m39, .ref m40, .long v41])), (m17, .inl (k 0, 30, .inl f17)), (m18, .inl (k 0, 250, .inl f18)), (m26, .inl (k 0, 8, .inl o_11))] H1 := hP
    have hD : va_D A [(m19, .inl (k 0, 40, .inl f19)), (m25, .inl (k 0, 4, .inl f25)), (mo, .inr (12, [.int v0, .ref m1, .ref m2, .ref m3, .ref m4, .ref m5, .int v6, .int v7, .int v8, .int v9, .int v10, .long v11, .int v12, .int v13, .int v14, .int v15, .ref m16, .ref m17, .ref m18, .ref m19, .ref m20, .ref m21, .ref m22, .ref m23, .int v24, .ref m25, .ref m26, .ref m27, .ref m28, .ref m29, .int v30, .ref m31, .ref m32, .ref m33, .int v34, .int v35, .int v36, .ref m37, .ref m38, .ref m39, .ref m40, .long v41])), (m17, .inl (k 0, 30, .inl f17)), (m18, .inl (k 0, 250, .inl f18)), (m26, .inl (k 0, 8, .inl o_11))] := hD
    generalize H1 = H at hP hS ⊢
    have hw_12 : (PR 8 1 0 0 100000 o_11) ∧ (MN o_11) := hw
    obtain ⟨hw_13, hw_14⟩ := hw_12
    clear hw
    have hP9 := hP.sub (ws' := [(mo, .inr (12, [.int v0, .ref m1, .ref m2, .ref m3, .ref m4, .ref m5, .int v6, .int v7, .int v8, .int v9, .int v10, .long v11, .int v12, .int v13, .int v14, .int v15, .ref m16, .ref m17, .ref m18, .ref m19, .ref m20, .ref m21, .ref m22, .ref m23, .int v24, .ref m25, .ref m26, .ref m27, .ref m28, .ref m29, .int v30, .ref m31, .ref m32, .ref m33, .int v34, .int v35, .int v36, .ref m37, .ref m38, .ref m39, .ref m40, .long v41])), (m17, .inl (k 0, 30, .inl f17)), (m18, .inl (k 0, 250, .inl f18)), (m19, .inl (k 0, 40, .inl f19)), (m25, .inl (k 0, 4, .inl f25)), (m26, .inl (k 0, 8, .inl o_11))]) [2, 3, 4, 0, 1, 5] rfl
    have hD9 := hD.sub (ws' := [(mo, .inr (12, [.int v0, .ref m1, .ref m2, .ref m3, .ref m4, .ref m5, .int v6, .int v7, .int v8, .int v9, .int v10, .long v11, .int v12, .int v13, .int v14, .int v15, .ref m16, .ref m17, .ref m18, .ref m19, .ref m20, .ref m21, .ref m22, .ref m23, .int v24, .ref m25, .ref m26, .ref m27, .ref m28, .ref m29, .int v30, .ref m31, .ref m32, .ref m33, .int v34, .int v35, .int v36, .ref m37, .ref m38, .ref m39, .ref m40, .long v41])), (m17, .inl (k 0, 30, .inl f17)), (m18, .inl (k 0, 250, .inl f18)), (m19, .inl (k 0, 40, .inl f19)), (m25, .inl (k 0, 4, .inl f25)), (m26, .inl (k 0, 8, .inl o_11))]) [2, 3, 4, 0, 1, 5] (by decide) rfl
    exact W.vret hx hb hr (fun tZ ht hW => ⟨⟨o_11, rfl, ⟨hw_13, hw_14⟩, by rw [ht]; exact hP9, va_K.moved hW.alike hK, hD9⟩, hS.F ht⟩) hS.2.2 dX12_darkens_46
  · skip
    have zh_9 : L6l3.toInt < x_8.toInt := z_nle h_9
    refine lv_aload_n hx hb dX12_darkens_16 rfl (lv_at hl 0 rfl) ?_
    refine lv_aload_n hx hb dX12_darkens_17 rfl (lv_at hl 0 rfl) ?_
    refine va_get (D := D) (ci := 12) (v := .ref m19) (C := RX12) (T := TX12) (N := 42) hx hb hts iT_X12 hown hK hP 4 rfl rfl 19 (by decide) (hts _ tw_6_72) (fun _ h9 => h9) rfl dX12_darkens_18 ?_
    refine lv_iconst (v := 2) hx hb dX12_darkens_21 (by decide) ?_
    refine lv_iload_n hx hb dX12_darkens_22 rfl (lv_at hl 3 rfl) ?_
    refine lv_imul hx hb dX12_darkens_23 ?_
    refine lv_topi (fun x_15 ex_15 => ?_)
    have zx_15 : x_15.toInt = 2 * L6l3.toInt := by rw [ex_15]; exact z_mul rfl rfl (by omega) (by omega)
    refine va_iald hx hb hK hP 2 0 rfl rfl (z_in (by omega) (by omega)) dX12_darkens_24 ?_
    refine lv_topi (fun x_16 ex_16 => ?_)
    have zx_16r0 : 0 ≤ x_16.toInt ∧ x_16.toInt ≤ 7 := by rw [ex_16]; exact PR.ld hp_f19_0 (by omega) (by omega) (by omega)
    refine lv_aload_n hx hb dX12_darkens_25 rfl (lv_at hl 0 rfl) ?_
    refine va_get (D := D) (ci := 12) (v := .ref m25) (C := RX12) (T := TX12) (N := 42) hx hb hts iT_X12 hown hK hP 4 rfl rfl 25 (by decide) (hts _ tw_6_78) (fun _ h9 => h9) rfl dX12_darkens_26 ?_
    refine lv_iload_n hx hb dX12_darkens_29 rfl (lv_at hl 3 rfl) ?_
    refine va_iald hx hb hK hP 3 0 rfl rfl (z_in (by omega) (by omega)) dX12_darkens_30 ?_
    refine lv_topi (fun x_17 ex_17 => ?_)
    have zx_17r0 : 0 ≤ x_17.toInt ∧ x_17.toInt ≤ 129 := by rw [ex_17]; exact PR.ld hp_f25_0 (by omega) (by omega) (by omega)
    have hPc := hP.sub (ws' := [(mo, .inr (12, [.int v0, .ref m1, .ref m2, .ref m3, .ref m4, .ref m5, .int v6, .int v7, .int v8, .int v9, .int v10, .long v11, .int v12, .int v13, .int v14, .int v15, .ref m16, .ref m17, .ref m18, .ref m19, .ref m20, .ref m21, .ref m22, .ref m23, .int v24, .ref m25, .ref m26, .ref m27, .ref m28, .ref m29, .int v30, .ref m31, .ref m32, .ref m33, .int v34, .int v35, .int v36, .ref m37, .ref m38, .ref m39, .ref m40, .long v41])), (m26, .inl (k 0, 8, .inl L6a5))]) [4, 5] rfl
    have hDc := hD.sub (ws' := [(mo, .inr (12, [.int v0, .ref m1, .ref m2, .ref m3, .ref m4, .ref m5, .int v6, .int v7, .int v8, .int v9, .int v10, .long v11, .int v12, .int v13, .int v14, .int v15, .ref m16, .ref m17, .ref m18, .ref m19, .ref m20, .ref m21, .ref m22, .ref m23, .int v24, .ref m25, .ref m26, .ref m27, .ref m28, .ref m29, .int v30, .ref m31, .ref m32, .ref m33, .int v34, .int v35, .int v36, .ref m37, .ref m38, .ref m39, .ref m40, .long v41])), (m26, .inl (k 0, 8, .inl L6a5))]) [4, 5] (by decide) rfl
    have hFc := va_free (wc := [(mo, .inr (12, [.int v0, .ref m1, .ref m2, .ref m3, .ref m4, .ref m5, .int v6, .int v7, .int v8, .int v9, .int v10, .long v11, .int v12, .int v13, .int v14, .int v15, .ref m16, .ref m17, .ref m18, .ref m19, .ref m20, .ref m21, .ref m22, .ref m23, .int v24, .ref m25, .ref m26, .ref m27, .ref m28, .ref m29, .int v30, .ref m31, .ref m32, .ref m33, .int v34, .int v35, .int v36, .ref m37, .ref m38, .ref m39, .ref m40, .long v41])), (m26, .inl (k 0, 8, .inl L6a5))]) hD hS hA [4, 5] rfl
    refine va_callv (va_runV (C := RX12) (As := [.int x_16, .int x_17]) (rest := []) ⟨hx, hb, hml, hown, hts⟩ (c_X12_begins__0 l D k mo x_16 x_17 v0 m1 m2 m3 m4 m5 v6 v7 v8 v9 v10 v11 v12 v13 v14 v15 m16 m17 m18 m19 m20 m21 m22 m23 v24 m25 m26 m27 m28 m29 v30 m31 m32 m33 v34 v35 v36 m37 m38 m39 m40 v41 L6a5 H.size (show 0 ≤ x_16.toInt ∧ x_16.toInt ≤ 7 from by omega) (show 0 ≤ x_17.toInt ∧ x_17.toInt ≤ 129 from by omega) (show 0 ≤ v6.toInt ∧ v6.toInt ≤ 1000 from by omega) (show 0 ≤ v24.toInt ∧ v24.toInt ≤ 1023 from by omega) L6a5h0 L6a5h1) (cwV 2 hts (gV tw_7_149 tw_7_151 tw_p_66 tw_1_13 tw_7_152) rfl rfl rfl hdV_X12_begins_ ⟨Nat.le_of_ble_eq_true rfl, Nat.le_of_ble_eq_true rfl⟩) (cz_V hK hPc hDc hN (ci := 12) (q0 := 0) rfl rfl [.int x_16, .int x_17]) rfl rfl hl.1 rfl (lv_room (Nat.le_of_ble_eq_true rfl)) dX12_darkens_31 ⟨Nat.le_of_ble_eq_true rfl, Nat.le_of_ble_eq_true rfl⟩) hS (fun q _ h => hFc q h) hFc (fun uZ tZ H1 locs ht hvm hw hB hz1 hk1 hS => ?_)
    obtain ⟨o_19, rfl⟩ : ∃ z, z = uZ := ⟨_, rfl⟩
    obtain ⟨hP1, hK1, hD1⟩ := hB
    rw [ht] at hP1
    obtain ⟨hP, hD⟩ := va_join (wr := [(m17, .inl (k 0, 30, .inl f17)), (m18, .inl (k 0, 250, .inl f18)), (m19, .inl (k 0, 40, .inl f19)), (m25, .inl (k 0, 4, .inl f25))]) (w1 := [(mo, .inr (12, [.int v0, .ref m1, .ref m2, .ref m3, .ref m4, .ref m5, .int v6, .int v7, .int v8, .int v9, .int v10, .long v11, .int v12, .int v13, .int v14, .int v15, .ref m16, .ref m17, .ref m18, .ref m19, .ref m20, .ref m21, .ref m22, .ref m23, .int v24, .ref m25, .ref m26, .ref m27, .ref m28, .ref m29, .int v30, .ref m31, .ref m32, .ref m33, .int v34, .int v35, .int v36, .ref m37, .ref m38, .ref m39, .ref m40, .long v41])), (m26, .inl (k 0, 8, .inl o_19))]) hP hD [4, 5] [0, 1, 2, 3] rfl rfl (by decide) (by decide) hk1 hFc hP1 hD1
    clear hK1 hP1 hD1 hPc hDc hFc
    clear hk1 hz1 ht hvm
    have hP : va_P D vwCl [(m17, .inl (k 0, 30, .inl f17)), (m18, .inl (k 0, 250, .inl f18)), (m19, .inl (k 0, 40, .inl f19)), (m25, .inl (k 0, 4, .inl f25)), (mo, .inr (12, [.int v0, .ref m1, .ref m2, .ref m3, .ref m4, .ref m5, .int v6, .int v7, .int v8, .int v9, .int v10, .long v11, .int v12, .int v13, .int v14, .int v15, .ref m16, .ref m17, .ref m18, .ref m19, .ref m20, .ref m21, .ref m22, .ref m23, .int v24, .ref m25, .ref m26, .ref m27, .ref m28, .ref m29, .int v30, .ref m31, .ref m32, .ref m33, .int v34, .int v35, .int v36, .ref m37, .ref m38, .ref m39, .ref m40, .long v41])), (m26, .inl (k 0, 8, .inl o_19))] H1 := hP
    have hD : va_D A [(m17, .inl (k 0, 30, .inl f17)), (m18, .inl (k 0, 250, .inl f18)), (m19, .inl (k 0, 40, .inl f19)), (m25, .inl (k 0, 4, .inl f25)), (mo, .inr (12, [.int v0, .ref m1, .ref m2, .ref m3, .ref m4, .ref m5, .int v6, .int v7, .int v8, .int v9, .int v10, .long v11, .int v12, .int v13, .int v14, .int v15, .ref m16, .ref m17, .ref m18, .ref m19, .ref m20, .ref m21, .ref m22, .ref m23, .int v24, .ref m25, .ref m26, .ref m27, .ref m28, .ref m29, .int v30, .ref m31, .ref m32, .ref m33, .int v34, .int v35, .int v36, .ref m37, .ref m38, .ref m39, .ref m40, .long v41])), (m26, .inl (k 0, 8, .inl o_19))] := hD
    generalize H1 = H at hP hS ⊢
    have hw_20 : (PR 8 1 0 0 100000 o_19) ∧ (MN o_19) := hw
    obtain ⟨hw_21, hw_22⟩ := hw_20
    clear hw
    obtain ⟨x_23, ex_23⟩ : ∃ y : Int32, y = L6l3 + 1 := ⟨_, rfl⟩
    have zx_23 : x_23.toInt = L6l3.toInt + 1 := by rw [ex_23]; exact z_add rfl rfl (by omega) (by omega)
    refine lv_iinc (v := x_23) (lv' := [(3, .int x_23), (0, .ref mo), (1, .int p0), (2, .int p1)]) hx hb dX12_darkens_34 hl (k := 3) rfl (by rw [ex_23]; rfl) (by decide) rfl (fun ls hl => ?_)
    refine lv_goto (tgt := 6) hx hb dX12_darkens_37 (by decide) ?_
    exact ih_6 _ _ _ _ (by omega) ⟨x_23, o_19, rfl, (show 0 ≤ x_23.toInt ∧ x_23.toInt ≤ 4 from by omega), hw_21, hw_22, hP.sub (ws' := [(m17, .inl (k 0, 30, .inl f17)), (m18, .inl (k 0, 250, .inl f18)), (m19, .inl (k 0, 40, .inl f19)), (m25, .inl (k 0, 4, .inl f25)), (mo, .inr (12, [.int v0, .ref m1, .ref m2, .ref m3, .ref m4, .ref m5, .int v6, .int v7, .int v8, .int v9, .int v10, .long v11, .int v12, .int v13, .int v14, .int v15, .ref m16, .ref m17, .ref m18, .ref m19, .ref m20, .ref m21, .ref m22, .ref m23, .int v24, .ref m25, .ref m26, .ref m27, .ref m28, .ref m29, .int v30, .ref m31, .ref m32, .ref m33, .int v34, .int v35, .int v36, .ref m37, .ref m38, .ref m39, .ref m40, .long v41])), (m26, .inl (k 0, 8, .inl o_19))]) [0, 1, 2, 3, 4, 5] rfl, hD.sub (ws' := [(m17, .inl (k 0, 30, .inl f17)), (m18, .inl (k 0, 250, .inl f18)), (m19, .inl (k 0, 40, .inl f19)), (m25, .inl (k 0, 4, .inl f25)), (mo, .inr (12, [.int v0, .ref m1, .ref m2, .ref m3, .ref m4, .ref m5, .int v6, .int v7, .int v8, .int v9, .int v10, .long v11, .int v12, .int v13, .int v14, .int v15, .ref m16, .ref m17, .ref m18, .ref m19, .ref m20, .ref m21, .ref m22, .ref m23, .int v24, .ref m25, .ref m26, .ref m27, .ref m28, .ref m29, .int v30, .ref m31, .ref m32, .ref m33, .int v34, .int v35, .int v36, .ref m37, .ref m38, .ref m39, .ref m40, .long v41])), (m26, .inl (k 0, 8, .inl o_19))]) [0, 1, 2, 3, 4, 5] (by decide) rfl, hS, lv_sub hl [1, 2, 3, 0] rfl⟩
set_option maxHeartbeats 4000000 in
set_option maxRecDepth 100000 in
theorem c_X12_comesTo_0 (l : Launch) (D : va_G) (k : Nat → ClassId) (mo : Nat) (p0 : Int32) (v0 : Int32) (m1 : Nat) (m2 : Nat) (m3 : Nat) (m4 : Nat) (m5 : Nat) (v6 : Int32) (v7 : Int32) (v8 : Int32) (v9 : Int32) (v10 : Int32) (v11 : Int64) (v12 : Int32) (v13 : Int32) (v14 : Int32) (v15 : Int32) (m16 : Nat) (m17 : Nat) (m18 : Nat) (m19 : Nat) (m20 : Nat) (m21 : Nat) (m22 : Nat) (m23 : Nat) (v24 : Int32) (m25 : Nat) (m26 : Nat) (m27 : Nat) (m28 : Nat) (m29 : Nat) (v30 : Int32) (m31 : Nat) (m32 : Nat) (m33 : Nat) (v34 : Int32) (v35 : Int32) (v36 : Int32) (m37 : Nat) (m38 : Nat) (m39 : Nat) (m40 : Nat) (v41 : Int64) (f26 : Nat → Int32) (sz : Nat) (h_p0 : 0 ≤ p0.toInt ∧ p0.toInt ≤ 7) (h_v6 : 0 ≤ v6.toInt ∧ v6.toInt ≤ 1000) (h_v24 : 0 ≤ v24.toInt ∧ v24.toInt ≤ 1023) (hp_f26_0 : PR 8 1 0 0 100000 f26) (hp_f26_1 : MN f26) : Met l yX12_comesTo (ww yX12_comesTo cX12_comesTo 2 (some .int)) ({ frames := 0, cells := 0, slots := 0, locals := 0 }) (Pre0 D k [(mo, .inr (12, [.int v0, .ref m1, .ref m2, .ref m3, .ref m4, .ref m5, .int v6, .int v7, .int v8, .int v9, .int v10, .long v11, .int v12, .int v13, .int v14, .int v15, .ref m16, .ref m17, .ref m18, .ref m19, .ref m20, .ref m21, .ref m22, .ref m23, .int v24, .ref m25, .ref m26, .ref m27, .ref m28, .ref m29, .int v30, .ref m31, .ref m32, .ref m33, .int v34, .int v35, .int v36, .ref m37, .ref m38, .ref m39, .ref m40, .long v41])), (m26, .inl (k 0, 8, .inl f26))] sz [.ref mo, .int p0]) (va_Qi (fun (r : Int32) (_ : Unit) => ((-1) ≤ r.toInt ∧ r.toInt ≤ 619)) (fun (_ : Unit) tZ => Bw D k (va_A [(mo, .inr (12, [.int v0, .ref m1, .ref m2, .ref m3, .ref m4, .ref m5, .int v6, .int v7, .int v8, .int v9, .int v10, .long v11, .int v12, .int v13, .int v14, .int v15, .ref m16, .ref m17, .ref m18, .ref m19, .ref m20, .ref m21, .ref m22, .ref m23, .int v24, .ref m25, .ref m26, .ref m27, .ref m28, .ref m29, .int v30, .ref m31, .ref m32, .ref m33, .int v34, .int v35, .int v36, .ref m37, .ref m38, .ref m39, .ref m40, .long v41])), (m26, .inl (k 0, 8, .inl f26))] sz) [(mo, .inr (12, [.int v0, .ref m1, .ref m2, .ref m3, .ref m4, .ref m5, .int v6, .int v7, .int v8, .int v9, .int v10, .long v11, .int v12, .int v13, .int v14, .int v15, .ref m16, .ref m17, .ref m18, .ref m19, .ref m20, .ref m21, .ref m22, .ref m23, .int v24, .ref m25, .ref m26, .ref m27, .ref m28, .ref m29, .int v30, .ref m31, .ref m32, .ref m33, .int v34, .int v35, .int v36, .ref m37, .ref m38, .ref m39, .ref m40, .long v41])), (m26, .inl (k 0, 8, .inl f26))] tZ) (va_A [(mo, .inr (12, [.int v0, .ref m1, .ref m2, .ref m3, .ref m4, .ref m5, .int v6, .int v7, .int v8, .int v9, .int v10, .long v11, .int v12, .int v13, .int v14, .int v15, .ref m16, .ref m17, .ref m18, .ref m19, .ref m20, .ref m21, .ref m22, .ref m23, .int v24, .ref m25, .ref m26, .ref m27, .ref m28, .ref m29, .int v30, .ref m31, .ref m32, .ref m33, .int v34, .int v35, .int v36, .ref m37, .ref m38, .ref m39, .ref m40, .long v41])), (m26, .inl (k 0, 8, .inl f26))] sz)) 0 0 (va_A [(mo, .inr (12, [.int v0, .ref m1, .ref m2, .ref m3, .ref m4, .ref m5, .int v6, .int v7, .int v8, .int v9, .int v10, .long v11, .int v12, .int v13, .int v14, .int v15, .ref m16, .ref m17, .ref m18, .ref m19, .ref m20, .ref m21, .ref m22, .ref m23, .int v24, .ref m25, .ref m26, .ref m27, .ref m28, .ref m29, .int v30, .ref m31, .ref m32, .ref m33, .int v34, .int v35, .int v36, .ref m37, .ref m38, .ref m39, .ref m40, .long v41])), (m26, .inl (k 0, 8, .inl f26))] sz) := by
  refine Met.ofW (cc := cX12_comesTo) (maxL := 2) (ret := (some .int)) (by decide +kernel) rfl ?_
  intro p e s m args below meth c s₁ B hml hv
  obtain ⟨rfl, hsz, hP, hK, hD0, hN⟩ := hv
  have hx := B.exec
  have hb := B.bytes
  have hr := B.returns
  have hts : ∀ w ∈ TT, w.before _ s = true := fun w h => atoms_spec (ws := ww yX12_comesTo cX12_comesTo 2 (some .int)) B.pre w (List.mem_cons_of_mem _ h)
  have hown : s.vm.findClass RX12 = some m.cls := findClass_of_methodNamed B.named
  have hlocks := B.notSynchronized
  subst hsz
  have hD := hD0.self (sz := s.heap.size)
  generalize hAe : va_A [(mo, .inr (12, [.int v0, .ref m1, .ref m2, .ref m3, .ref m4, .ref m5, .int v6, .int v7, .int v8, .int v9, .int v10, .long v11, .int v12, .int v13, .int v14, .int v15, .ref m16, .ref m17, .ref m18, .ref m19, .ref m20, .ref m21, .ref m22, .ref m23, .int v24, .ref m25, .ref m26, .ref m27, .ref m28, .ref m29, .int v30, .ref m31, .ref m32, .ref m33, .int v34, .int v35, .int v36, .ref m37, .ref m38, .ref m39, .ref m40, .long v41])), (m26, .inl (k 0, 8, .inl f26))] s.heap.size = A at hD ⊢
  have hA : ∀ q : Nat, s.heap.size ≤ q → A q := fun q h => by rw [← hAe]; exact Or.inr h
  have hS : va_S A s.heap s.heap [] := va_S.rf
  have hl := lv_entry ([.ref mo, .int p0]) (n := 2) (Nat.le_of_ble_eq_true rfl)
  rw [lg_entry_eq]
  generalize (lg_sl ([.ref mo, .int p0]) ++ List.replicate (2 - (lg_sl ([.ref mo, .int p0])).length) Slot.unset).toArray = ls at hl ⊢
  have hl : lv_has ls 2 [(0, .ref mo), (1, .int p0)] := hl
  refine lv_aload_n hx hb dX12_comesTo_0 rfl (lv_at hl 0 rfl) ?_
  refine va_get (D := D) (ci := 12) (v := .ref m26) (C := RX12) (T := TX12) (N := 42) hx hb hts iT_X12 hown hK hP 0 rfl rfl 26 (by decide) (hts _ tw_6_79) (fun _ h9 => h9) rfl dX12_comesTo_1 ?_
  refine lv_iload_n hx hb dX12_comesTo_4 rfl (lv_at hl 1 rfl) ?_
  refine va_iald hx hb hK hP 1 0 rfl rfl (z_in (by omega) (by omega)) dX12_comesTo_5 ?_
  refine lv_topi (fun x_1 ex_1 => ?_)
  have zx_1r0 : 0 ≤ x_1.toInt ∧ x_1.toInt ≤ 100000 := by rw [ex_1]; exact PR.ld hp_f26_0 (by omega) (by omega) (by omega)
  have zmnx_1 : x_1.toInt = 100000 ∨ x_1.toInt ≤ 619 := by rw [ex_1]; exact MN.ld hp_f26_1 (by omega) (by omega)
  refine lv_ldc (v := 100000) hx hb hown (hts _ tw_7_5) dX12_comesTo_6 ?_
  refine lv_icmp_lt (tgt := 15) hx hb dX12_comesTo_8 (by decide) (fun h_2 => ?_) (fun h_2 => ?_)
  · skip
    have zh_2 : x_1.toInt < 100000 := z_lt h_2
    refine lv_aload_n hx hb dX12_comesTo_15 rfl (lv_at hl 0 rfl) ?_
    refine va_get (D := D) (ci := 12) (v := .ref m26) (C := RX12) (T := TX12) (N := 42) hx hb hts iT_X12 hown hK hP 0 rfl rfl 26 (by decide) (hts _ tw_6_79) (fun _ h9 => h9) rfl dX12_comesTo_16 ?_
    refine lv_iload_n hx hb dX12_comesTo_19 rfl (lv_at hl 1 rfl) ?_
    refine va_iald hx hb hK hP 1 0 rfl rfl (z_in (by omega) (by omega)) dX12_comesTo_20 ?_
    refine lv_topi (fun x_3 ex_3 => ?_)
    obtain rfl : x_1 = x_3 := ex_1.trans ex_3.symm
    have hP9 := hP.sub (ws' := [(mo, .inr (12, [.int v0, .ref m1, .ref m2, .ref m3, .ref m4, .ref m5, .int v6, .int v7, .int v8, .int v9, .int v10, .long v11, .int v12, .int v13, .int v14, .int v15, .ref m16, .ref m17, .ref m18, .ref m19, .ref m20, .ref m21, .ref m22, .ref m23, .int v24, .ref m25, .ref m26, .ref m27, .ref m28, .ref m29, .int v30, .ref m31, .ref m32, .ref m33, .int v34, .int v35, .int v36, .ref m37, .ref m38, .ref m39, .ref m40, .long v41])), (m26, .inl (k 0, 8, .inl f26))]) [0, 1] rfl
    have hD9 := hD.sub (ws' := [(mo, .inr (12, [.int v0, .ref m1, .ref m2, .ref m3, .ref m4, .ref m5, .int v6, .int v7, .int v8, .int v9, .int v10, .long v11, .int v12, .int v13, .int v14, .int v15, .ref m16, .ref m17, .ref m18, .ref m19, .ref m20, .ref m21, .ref m22, .ref m23, .int v24, .ref m25, .ref m26, .ref m27, .ref m28, .ref m29, .int v30, .ref m31, .ref m32, .ref m33, .int v34, .int v35, .int v36, .ref m37, .ref m38, .ref m39, .ref m40, .long v41])), (m26, .inl (k 0, 8, .inl f26))]) [0, 1] (by decide) rfl
    exact W.iret (v := x_1) hx hb hr (fun tZ ht hW => ⟨⟨x_1, (), rfl, (show (-1) ≤ x_1.toInt ∧ x_1.toInt ≤ 619 from by omega), by rw [ht]; exact hP9, va_K.moved hW.alike hK, hD9⟩, hS.F ht⟩) hS.2.2 dX12_comesTo_21
  · skip
    have zh_2 : 100000 ≤ x_1.toInt := z_nlt h_2
    refine lv_iconst (v := (-1)) hx hb dX12_comesTo_11 (by decide) ?_
    refine lv_goto (tgt := 21) hx hb dX12_comesTo_12 (by decide) ?_
    have hP9 := hP.sub (ws' := [(mo, .inr (12, [.int v0, .ref m1, .ref m2, .ref m3, .ref m4, .ref m5, .int v6, .int v7, .int v8, .int v9, .int v10, .long v11, .int v12, .int v13, .int v14, .int v15, .ref m16, .ref m17, .ref m18, .ref m19, .ref m20, .ref m21, .ref m22, .ref m23, .int v24, .ref m25, .ref m26, .ref m27, .ref m28, .ref m29, .int v30, .ref m31, .ref m32, .ref m33, .int v34, .int v35, .int v36, .ref m37, .ref m38, .ref m39, .ref m40, .long v41])), (m26, .inl (k 0, 8, .inl f26))]) [0, 1] rfl
    have hD9 := hD.sub (ws' := [(mo, .inr (12, [.int v0, .ref m1, .ref m2, .ref m3, .ref m4, .ref m5, .int v6, .int v7, .int v8, .int v9, .int v10, .long v11, .int v12, .int v13, .int v14, .int v15, .ref m16, .ref m17, .ref m18, .ref m19, .ref m20, .ref m21, .ref m22, .ref m23, .int v24, .ref m25, .ref m26, .ref m27, .ref m28, .ref m29, .int v30, .ref m31, .ref m32, .ref m33, .int v34, .int v35, .int v36, .ref m37, .ref m38, .ref m39, .ref m40, .long v41])), (m26, .inl (k 0, 8, .inl f26))]) [0, 1] (by decide) rfl
    exact W.iret (v := (-1)) hx hb hr (fun tZ ht hW => ⟨⟨(-1), (), rfl, (show (-1) ≤ (-1) ∧ (-1) ≤ 619 from by omega), by rw [ht]; exact hP9, va_K.moved hW.alike hK, hD9⟩, hS.F ht⟩) hS.2.2 dX12_comesTo_21
set_option maxHeartbeats 4000000 in
set_option maxRecDepth 100000 in
theorem c_X12_comesTo_1 (l : Launch) (D : va_G) (k : Nat → ClassId) (mo : Nat) (p0 : Int32) (v0 : Int32) (m1 : Nat) (m2 : Nat) (m3 : Nat) (m4 : Nat) (m5 : Nat) (v6 : Int32) (v7 : Int32) (v8 : Int32) (v9 : Int32) (v10 : Int32) (v11 : Int64) (v12 : Int32) (v13 : Int32) (v14 : Int32) (v15 : Int32) (m16 : Nat) (m17 : Nat) (m18 : Nat) (m19 : Nat) (m20 : Nat) (m21 : Nat) (m22 : Nat) (m23 : Nat) (v24 : Int32) (m25 : Nat) (m26 : Nat) (m27 : Nat) (m28 : Nat) (m29 : Nat) (v30 : Int32) (m31 : Nat) (m32 : Nat) (m33 : Nat) (v34 : Int32) (v35 : Int32) (v36 : Int32) (m37 : Nat) (m38 : Nat) (m39 : Nat) (m40 : Nat) (v41 : Int64) (f26 : Nat → Int32) (sz : Nat) (h_p0 : 0 ≤ p0.toInt ∧ p0.toInt ≤ 7) (h_v6 : 0 ≤ v6.toInt ∧ v6.toInt ≤ 1000) (h_v24 : 0 ≤ v24.toInt ∧ v24.toInt ≤ 1023) (hp_f26_0 : PR 8 1 0 0 100000 f26) : Met l yX12_comesTo (ww yX12_comesTo cX12_comesTo 2 (some .int)) ({ frames := 0, cells := 0, slots := 0, locals := 0 }) (Pre0 D k [(mo, .inr (12, [.int v0, .ref m1, .ref m2, .ref m3, .ref m4, .ref m5, .int v6, .int v7, .int v8, .int v9, .int v10, .long v11, .int v12, .int v13, .int v14, .int v15, .ref m16, .ref m17, .ref m18, .ref m19, .ref m20, .ref m21, .ref m22, .ref m23, .int v24, .ref m25, .ref m26, .ref m27, .ref m28, .ref m29, .int v30, .ref m31, .ref m32, .ref m33, .int v34, .int v35, .int v36, .ref m37, .ref m38, .ref m39, .ref m40, .long v41])), (m26, .inl (k 0, 8, .inl f26))] sz [.ref mo, .int p0]) (va_Qi (fun (r : Int32) (_ : Unit) => ((-1) ≤ r.toInt ∧ r.toInt ≤ 99999)) (fun (_ : Unit) tZ => Bw D k (va_A [(mo, .inr (12, [.int v0, .ref m1, .ref m2, .ref m3, .ref m4, .ref m5, .int v6, .int v7, .int v8, .int v9, .int v10, .long v11, .int v12, .int v13, .int v14, .int v15, .ref m16, .ref m17, .ref m18, .ref m19, .ref m20, .ref m21, .ref m22, .ref m23, .int v24, .ref m25, .ref m26, .ref m27, .ref m28, .ref m29, .int v30, .ref m31, .ref m32, .ref m33, .int v34, .int v35, .int v36, .ref m37, .ref m38, .ref m39, .ref m40, .long v41])), (m26, .inl (k 0, 8, .inl f26))] sz) [(mo, .inr (12, [.int v0, .ref m1, .ref m2, .ref m3, .ref m4, .ref m5, .int v6, .int v7, .int v8, .int v9, .int v10, .long v11, .int v12, .int v13, .int v14, .int v15, .ref m16, .ref m17, .ref m18, .ref m19, .ref m20, .ref m21, .ref m22, .ref m23, .int v24, .ref m25, .ref m26, .ref m27, .ref m28, .ref m29, .int v30, .ref m31, .ref m32, .ref m33, .int v34, .int v35, .int v36, .ref m37, .ref m38, .ref m39, .ref m40, .long v41])), (m26, .inl (k 0, 8, .inl f26))] tZ) (va_A [(mo, .inr (12, [.int v0, .ref m1, .ref m2, .ref m3, .ref m4, .ref m5, .int v6, .int v7, .int v8, .int v9, .int v10, .long v11, .int v12, .int v13, .int v14, .int v15, .ref m16, .ref m17, .ref m18, .ref m19, .ref m20, .ref m21, .ref m22, .ref m23, .int v24, .ref m25, .ref m26, .ref m27, .ref m28, .ref m29, .int v30, .ref m31, .ref m32, .ref m33, .int v34, .int v35, .int v36, .ref m37, .ref m38, .ref m39, .ref m40, .long v41])), (m26, .inl (k 0, 8, .inl f26))] sz)) 0 0 (va_A [(mo, .inr (12, [.int v0, .ref m1, .ref m2, .ref m3, .ref m4, .ref m5, .int v6, .int v7, .int v8, .int v9, .int v10, .long v11, .int v12, .int v13, .int v14, .int v15, .ref m16, .ref m17, .ref m18, .ref m19, .ref m20, .ref m21, .ref m22, .ref m23, .int v24, .ref m25, .ref m26, .ref m27, .ref m28, .ref m29, .int v30, .ref m31, .ref m32, .ref m33, .int v34, .int v35, .int v36, .ref m37, .ref m38, .ref m39, .ref m40, .long v41])), (m26, .inl (k 0, 8, .inl f26))] sz) := by
  refine Met.ofW (cc := cX12_comesTo) (maxL := 2) (ret := (some .int)) (by decide +kernel) rfl ?_
  intro p e s m args below meth c s₁ B hml hv
  obtain ⟨rfl, hsz, hP, hK, hD0, hN⟩ := hv
  have hx := B.exec
  have hb := B.bytes
  have hr := B.returns
  have hts : ∀ w ∈ TT, w.before _ s = true := fun w h => atoms_spec (ws := ww yX12_comesTo cX12_comesTo 2 (some .int)) B.pre w (List.mem_cons_of_mem _ h)
  have hown : s.vm.findClass RX12 = some m.cls := findClass_of_methodNamed B.named
  have hlocks := B.notSynchronized
  subst hsz
  have hD := hD0.self (sz := s.heap.size)
  generalize hAe : va_A [(mo, .inr (12, [.int v0, .ref m1, .ref m2, .ref m3, .ref m4, .ref m5, .int v6, .int v7, .int v8, .int v9, .int v10, .long v11, .int v12, .int v13, .int v14, .int v15, .ref m16, .ref m17, .ref m18, .ref m19, .ref m20, .ref m21, .ref m22, .ref m23, .int v24, .ref m25, .ref m26, .ref m27, .ref m28, .ref m29, .int v30, .ref m31, .ref m32, .ref m33, .int v34, .int v35, .int v36, .ref m37, .ref m38, .ref m39, .ref m40, .long v41])), (m26, .inl (k 0, 8, .inl f26))] s.heap.size = A at hD ⊢
  have hA : ∀ q : Nat, s.heap.size ≤ q → A q := fun q h => by rw [← hAe]; exact Or.inr h
  have hS : va_S A s.heap s.heap [] := va_S.rf
  have hl := lv_entry ([.ref mo, .int p0]) (n := 2) (Nat.le_of_ble_eq_true rfl)
  rw [lg_entry_eq]
  generalize (lg_sl ([.ref mo, .int p0]) ++ List.replicate (2 - (lg_sl ([.ref mo, .int p0])).length) Slot.unset).toArray = ls at hl ⊢
  have hl : lv_has ls 2 [(0, .ref mo), (1, .int p0)] := hl
  refine lv_aload_n hx hb dX12_comesTo_0 rfl (lv_at hl 0 rfl) ?_
  refine va_get (D := D) (ci := 12) (v := .ref m26) (C := RX12) (T := TX12) (N := 42) hx hb hts iT_X12 hown hK hP 0 rfl rfl 26 (by decide) (hts _ tw_6_79) (fun _ h9 => h9) rfl dX12_comesTo_1 ?_
  refine lv_iload_n hx hb dX12_comesTo_4 rfl (lv_at hl 1 rfl) ?_
  refine va_iald hx hb hK hP 1 0 rfl rfl (z_in (by omega) (by omega)) dX12_comesTo_5 ?_
  refine lv_topi (fun x_1 ex_1 => ?_)
  have zx_1r0 : 0 ≤ x_1.toInt ∧ x_1.toInt ≤ 100000 := by rw [ex_1]; exact PR.ld hp_f26_0 (by omega) (by omega) (by omega)
  refine lv_ldc (v := 100000) hx hb hown (hts _ tw_7_5) dX12_comesTo_6 ?_
  refine lv_icmp_lt (tgt := 15) hx hb dX12_comesTo_8 (by decide) (fun h_2 => ?_) (fun h_2 => ?_)
  · skip
    have zh_2 : x_1.toInt < 100000 := z_lt h_2
    refine lv_aload_n hx hb dX12_comesTo_15 rfl (lv_at hl 0 rfl) ?_
    refine va_get (D := D) (ci := 12) (v := .ref m26) (C := RX12) (T := TX12) (N := 42) hx hb hts iT_X12 hown hK hP 0 rfl rfl 26 (by decide) (hts _ tw_6_79) (fun _ h9 => h9) rfl dX12_comesTo_16 ?_
    refine lv_iload_n hx hb dX12_comesTo_19 rfl (lv_at hl 1 rfl) ?_
    refine va_iald hx hb hK hP 1 0 rfl rfl (z_in (by omega) (by omega)) dX12_comesTo_20 ?_
    refine lv_topi (fun x_3 ex_3 => ?_)
    obtain rfl : x_1 = x_3 := ex_1.trans ex_3.symm
    have hP9 := hP.sub (ws' := [(mo, .inr (12, [.int v0, .ref m1, .ref m2, .ref m3, .ref m4, .ref m5, .int v6, .int v7, .int v8, .int v9, .int v10, .long v11, .int v12, .int v13, .int v14, .int v15, .ref m16, .ref m17, .ref m18, .ref m19, .ref m20, .ref m21, .ref m22, .ref m23, .int v24, .ref m25, .ref m26, .ref m27, .ref m28, .ref m29, .int v30, .ref m31, .ref m32, .ref m33, .int v34, .int v35, .int v36, .ref m37, .ref m38, .ref m39, .ref m40, .long v41])), (m26, .inl (k 0, 8, .inl f26))]) [0, 1] rfl
    have hD9 := hD.sub (ws' := [(mo, .inr (12, [.int v0, .ref m1, .ref m2, .ref m3, .ref m4, .ref m5, .int v6, .int v7, .int v8, .int v9, .int v10, .long v11, .int v12, .int v13, .int v14, .int v15, .ref m16, .ref m17, .ref m18, .ref m19, .ref m20, .ref m21, .ref m22, .ref m23, .int v24, .ref m25, .ref m26, .ref m27, .ref m28, .ref m29, .int v30, .ref m31, .ref m32, .ref m33, .int v34, .int v35, .int v36, .ref m37, .ref m38, .ref m39, .ref m40, .long v41])), (m26, .inl (k 0, 8, .inl f26))]) [0, 1] (by decide) rfl
    exact W.iret (v := x_1) hx hb hr (fun tZ ht hW => ⟨⟨x_1, (), rfl, (show (-1) ≤ x_1.toInt ∧ x_1.toInt ≤ 99999 from by omega), by rw [ht]; exact hP9, va_K.moved hW.alike hK, hD9⟩, hS.F ht⟩) hS.2.2 dX12_comesTo_21
  · skip
    have zh_2 : 100000 ≤ x_1.toInt := z_nlt h_2
    refine lv_iconst (v := (-1)) hx hb dX12_comesTo_11 (by decide) ?_
    refine lv_goto (tgt := 21) hx hb dX12_comesTo_12 (by decide) ?_
    have hP9 := hP.sub (ws' := [(mo, .inr (12, [.int v0, .ref m1, .ref m2, .ref m3, .ref m4, .ref m5, .int v6, .int v7, .int v8, .int v9, .int v10, .long v11, .int v12, .int v13, .int v14, .int v15, .ref m16, .ref m17, .ref m18, .ref m19, .ref m20, .ref m21, .ref m22, .ref m23, .int v24, .ref m25, .ref m26, .ref m27, .ref m28, .ref m29, .int v30, .ref m31, .ref m32, .ref m33, .int v34, .int v35, .int v36, .ref m37, .ref m38, .ref m39, .ref m40, .long v41])), (m26, .inl (k 0, 8, .inl f26))]) [0, 1] rfl
    have hD9 := hD.sub (ws' := [(mo, .inr (12, [.int v0, .ref m1, .ref m2, .ref m3, .ref m4, .ref m5, .int v6, .int v7, .int v8, .int v9, .int v10, .long v11, .int v12, .int v13, .int v14, .int v15, .ref m16, .ref m17, .ref m18, .ref m19, .ref m20, .ref m21, .ref m22, .ref m23, .int v24, .ref m25, .ref m26, .ref m27, .ref m28, .ref m29, .int v30, .ref m31, .ref m32, .ref m33, .int v34, .int v35, .int v36, .ref m37, .ref m38, .ref m39, .ref m40, .long v41])), (m26, .inl (k 0, 8, .inl f26))]) [0, 1] (by decide) rfl
    exact W.iret (v := (-1)) hx hb hr (fun tZ ht hW => ⟨⟨(-1), (), rfl, (show (-1) ≤ (-1) ∧ (-1) ≤ 99999 from by omega), by rw [ht]; exact hP9, va_K.moved hW.alike hK, hD9⟩, hS.F ht⟩) hS.2.2 dX12_comesTo_21
