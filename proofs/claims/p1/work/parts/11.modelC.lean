set_option maxHeartbeats 4000000 in
set_option maxRecDepth 100000 in
theorem c_X12_count (l : Launch) (D : va_G) (k : Nat → ClassId) (mo : Nat) (m1 : Nat) (m2 : Nat) (m3 : Nat) (m4 : Nat) (m5 : Nat) (m16 : Nat) (m17 : Nat) (m18 : Nat) (m19 : Nat) (m20 : Nat) (m21 : Nat) (m22 : Nat) (m23 : Nat) (m25 : Nat) (m26 : Nat) (m27 : Nat) (m28 : Nat) (m29 : Nat) (m31 : Nat) (m32 : Nat) (m33 : Nat) (m37 : Nat) (m38 : Nat) (m39 : Nat) (m40 : Nat) (fw : Nat → Int32) (p0 : Int32) (sz : Nat) (hfw : ∀ j, j < 4 → fw j = -1) : Met l yX12_count (ww yX12_count cX12_count 4 (some .int)) ({ frames := 1, cells := 0, slots := 0, locals := 25 }) (Pre0 D k [(mo, .inr (12, [.int 0, .ref m1, .ref m2, .ref m3, .ref m4, .ref m5, .int 0, .int 0, .int 0, .int 0, .int 0, .long 0, .int 0, .int 0, .int 0, .int (-1), .ref m16, .ref m17, .ref m18, .ref m19, .ref m20, .ref m21, .ref m22, .ref m23, .int 0, .ref m25, .ref m26, .ref m27, .ref m28, .ref m29, .int 0, .ref m31, .ref m32, .ref m33, .int 0, .int 0, .int 0, .ref m37, .ref m38, .ref m39, .ref m40, .long 0])), (m17, .inl (k 0, 30, .inl (fun _ => 0))), (m16, .inl (k 0, 5, .inl (fun _ => 0))), (m1, .inl (k 0, 4, .inl fw))] sz [.ref mo, .int p0]) (va_Qi (fun (r : Int32) (_ : Unit) => r = sp_count p0) (fun (_ : Unit) tZ => Bw D k (va_A [(mo, .inr (12, [.int 0, .ref m1, .ref m2, .ref m3, .ref m4, .ref m5, .int 0, .int 0, .int 0, .int 0, .int 0, .long 0, .int 0, .int 0, .int 0, .int (-1), .ref m16, .ref m17, .ref m18, .ref m19, .ref m20, .ref m21, .ref m22, .ref m23, .int 0, .ref m25, .ref m26, .ref m27, .ref m28, .ref m29, .int 0, .ref m31, .ref m32, .ref m33, .int 0, .int 0, .int 0, .ref m37, .ref m38, .ref m39, .ref m40, .long 0])), (m17, .inl (k 0, 30, .inl (fun _ => 0))), (m16, .inl (k 0, 5, .inl (fun _ => 0))), (m1, .inl (k 0, 4, .inl fw))] sz) [(mo, .inr (12, [.int 0, .ref m1, .ref m2, .ref m3, .ref m4, .ref m5, .int 0, .int 0, .int 0, .int 0, .int 0, .long 0, .int 0, .int 0, .int 0, .int (-1), .ref m16, .ref m17, .ref m18, .ref m19, .ref m20, .ref m21, .ref m22, .ref m23, .int 0, .ref m25, .ref m26, .ref m27, .ref m28, .ref m29, .int 0, .ref m31, .ref m32, .ref m33, .int 0, .int 0, .int 0, .ref m37, .ref m38, .ref m39, .ref m40, .long 0])), (m17, .inl (k 0, 30, .inl (fun _ => 0))), (m16, .inl (k 0, 5, .inl (fun _ => 0))), (m1, .inl (k 0, 4, .inl fw))] tZ) (va_A [(mo, .inr (12, [.int 0, .ref m1, .ref m2, .ref m3, .ref m4, .ref m5, .int 0, .int 0, .int 0, .int 0, .int 0, .long 0, .int 0, .int 0, .int 0, .int (-1), .ref m16, .ref m17, .ref m18, .ref m19, .ref m20, .ref m21, .ref m22, .ref m23, .int 0, .ref m25, .ref m26, .ref m27, .ref m28, .ref m29, .int 0, .ref m31, .ref m32, .ref m33, .int 0, .int 0, .int 0, .ref m37, .ref m38, .ref m39, .ref m40, .long 0])), (m17, .inl (k 0, 30, .inl (fun _ => 0))), (m16, .inl (k 0, 5, .inl (fun _ => 0))), (m1, .inl (k 0, 4, .inl fw))] sz)) 0 0 (va_A [(mo, .inr (12, [.int 0, .ref m1, .ref m2, .ref m3, .ref m4, .ref m5, .int 0, .int 0, .int 0, .int 0, .int 0, .long 0, .int 0, .int 0, .int 0, .int (-1), .ref m16, .ref m17, .ref m18, .ref m19, .ref m20, .ref m21, .ref m22, .ref m23, .int 0, .ref m25, .ref m26, .ref m27, .ref m28, .ref m29, .int 0, .ref m31, .ref m32, .ref m33, .int 0, .int 0, .int 0, .ref m37, .ref m38, .ref m39, .ref m40, .long 0])), (m17, .inl (k 0, 30, .inl (fun _ => 0))), (m16, .inl (k 0, 5, .inl (fun _ => 0))), (m1, .inl (k 0, 4, .inl fw))] sz) := by
  refine Met.ofW (cc := cX12_count) (maxL := 4) (ret := (some .int)) (by decide +kernel) rfl ?_
  intro p e s m args below meth c s₁ B hml hv
  obtain ⟨rfl, hsz, hP, hK, hD0, hN⟩ := hv
  have hx := B.exec
  have hb := B.bytes
  have hr := B.returns
  have hts : ∀ w ∈ TT, w.before _ s = true := fun w h => atoms_spec (ws := ww yX12_count cX12_count 4 (some .int)) B.pre w (List.mem_cons_of_mem _ h)
  have hown : s.vm.findClass RX12 = some m.cls := findClass_of_methodNamed B.named
  have hlocks := B.notSynchronized
  subst hsz
  have hD := hD0.self (sz := s.heap.size)
  generalize hAe : va_A [(mo, .inr (12, [.int 0, .ref m1, .ref m2, .ref m3, .ref m4, .ref m5, .int 0, .int 0, .int 0, .int 0, .int 0, .long 0, .int 0, .int 0, .int 0, .int (-1), .ref m16, .ref m17, .ref m18, .ref m19, .ref m20, .ref m21, .ref m22, .ref m23, .int 0, .ref m25, .ref m26, .ref m27, .ref m28, .ref m29, .int 0, .ref m31, .ref m32, .ref m33, .int 0, .int 0, .int 0, .ref m37, .ref m38, .ref m39, .ref m40, .long 0])), (m17, .inl (k 0, 30, .inl (fun _ => 0))), (m16, .inl (k 0, 5, .inl (fun _ => 0))), (m1, .inl (k 0, 4, .inl fw))] s.heap.size = A at hD ⊢
  have hA : ∀ q : Nat, s.heap.size ≤ q → A q := fun q h => by rw [← hAe]; exact Or.inr h
  have hS : va_S A s.heap s.heap [] := va_S.rf
  have hl := lv_entry ([.ref mo, .int p0]) (n := 4) (Nat.le_of_ble_eq_true rfl)
  rw [lg_entry_eq]
  generalize (lg_sl ([.ref mo, .int p0]) ++ List.replicate (4 - (lg_sl ([.ref mo, .int p0])).length) Slot.unset).toArray = ls at hl ⊢
  have hl : lv_has ls 4 [(0, .ref mo), (1, .int p0)] := hl
  refine lv_aload_n hx hb dX12_count_0 rfl (lv_at hl 0 rfl) ?_
  refine lv_iconst (v := 0) hx hb dX12_count_1 (by decide) ?_
  refine va_put (D := D) (ci := 12) (v := .int 0) (ty := tyX12 0) (C := RX12) (T := TX12) (N := 42) hx hb hts iT_X12 tyX12 tyX12_ok nmX12 hown hK hP hD hS 0 rfl rfl 0 (by decide) (hts _ tw_6_53) (fun _ h9 => h9) rfl (tyX12_ok 0 (by decide)) rfl rfl (Nat.le_of_ble_eq_true rfl) dX12_count_2 (fun H locs hP hD hS => ?_)
  have hP : va_P D vwCl [(mo, .inr (12, [.int 0, .ref m1, .ref m2, .ref m3, .ref m4, .ref m5, .int 0, .int 0, .int 0, .int 0, .int 0, .long 0, .int 0, .int 0, .int 0, .int (-1), .ref m16, .ref m17, .ref m18, .ref m19, .ref m20, .ref m21, .ref m22, .ref m23, .int 0, .ref m25, .ref m26, .ref m27, .ref m28, .ref m29, .int 0, .ref m31, .ref m32, .ref m33, .int 0, .int 0, .int 0, .ref m37, .ref m38, .ref m39, .ref m40, .long 0])), (m17, .inl (k 0, 30, .inl (fun _ => 0))), (m16, .inl (k 0, 5, .inl (fun _ => 0))), (m1, .inl (k 0, 4, .inl fw))] H := hP
  have hD : va_D A [(mo, .inr (12, [.int 0, .ref m1, .ref m2, .ref m3, .ref m4, .ref m5, .int 0, .int 0, .int 0, .int 0, .int 0, .long 0, .int 0, .int 0, .int 0, .int (-1), .ref m16, .ref m17, .ref m18, .ref m19, .ref m20, .ref m21, .ref m22, .ref m23, .int 0, .ref m25, .ref m26, .ref m27, .ref m28, .ref m29, .int 0, .ref m31, .ref m32, .ref m33, .int 0, .int 0, .int 0, .ref m37, .ref m38, .ref m39, .ref m40, .long 0])), (m17, .inl (k 0, 30, .inl (fun _ => 0))), (m16, .inl (k 0, 5, .inl (fun _ => 0))), (m1, .inl (k 0, 4, .inl fw))] := hD
  refine lv_iload_n hx hb dX12_count_5 rfl (lv_at hl 1 rfl) ?_
  refine lv_i2l (v := p0.toInt64) hx hb dX12_count_6 rfl ?_
  refine lv_lconst (v := 0) hx hb dX12_count_7 (by decide) ?_
  refine lv_ldc2 (v := 5) hx hb hown (hts _ tw_9_15) dX12_count_8 ?_
  have hPc := hP.sub (ws' := []) [] rfl
  have hDc := hD.sub (ws' := []) [] (by decide) rfl
  have hFc := va_free (wc := []) hD hS hA [] rfl
  refine va_calli (va_runS (As := [.long p0.toInt64, .long 0, .long 5]) (rest := []) ⟨hx, hb, hml, hown, hts⟩ (c_X12_in l D k p0.toInt64 0 5 H.size) (va_cwS 3 hts (gS tw_6_188 tw_6_189 tw_1_13 tw_6_190) rfl rfl rfl hdS_X12_in ⟨Nat.le_of_ble_eq_true rfl, Nat.le_of_ble_eq_true rfl⟩) (cz_S hK hPc hDc hN [.long p0.toInt64, .long 0, .long 5]) rfl rfl hl.1 rfl (lv_room (Nat.le_of_ble_eq_true rfl)) dX12_count_11 ⟨Nat.le_of_ble_eq_true rfl, Nat.le_of_ble_eq_true rfl⟩) hS (fun q _ h => hFc q h) hFc (fun r_1 uZ tZ H1 locs ht hvm hw hB hz1 hk1 hS => ?_)
  obtain ⟨hP1, hK1, hD1⟩ := hB
  rw [ht] at hP1
  obtain ⟨hP, hD⟩ := va_join (wr := [(mo, .inr (12, [.int 0, .ref m1, .ref m2, .ref m3, .ref m4, .ref m5, .int 0, .int 0, .int 0, .int 0, .int 0, .long 0, .int 0, .int 0, .int 0, .int (-1), .ref m16, .ref m17, .ref m18, .ref m19, .ref m20, .ref m21, .ref m22, .ref m23, .int 0, .ref m25, .ref m26, .ref m27, .ref m28, .ref m29, .int 0, .ref m31, .ref m32, .ref m33, .int 0, .int 0, .int 0, .ref m37, .ref m38, .ref m39, .ref m40, .long 0])), (m17, .inl (k 0, 30, .inl (fun _ => 0))), (m16, .inl (k 0, 5, .inl (fun _ => 0))), (m1, .inl (k 0, 4, .inl fw))]) (w1 := []) hP hD [] [0, 1, 2, 3] rfl rfl (by decide) (by decide) hk1 hFc hP1 hD1
  clear hK1 hP1 hD1 hPc hDc hFc
  clear hk1 hz1 ht hvm
  have hP : va_P D vwCl [(mo, .inr (12, [.int 0, .ref m1, .ref m2, .ref m3, .ref m4, .ref m5, .int 0, .int 0, .int 0, .int 0, .int 0, .long 0, .int 0, .int 0, .int 0, .int (-1), .ref m16, .ref m17, .ref m18, .ref m19, .ref m20, .ref m21, .ref m22, .ref m23, .int 0, .ref m25, .ref m26, .ref m27, .ref m28, .ref m29, .int 0, .ref m31, .ref m32, .ref m33, .int 0, .int 0, .int 0, .ref m37, .ref m38, .ref m39, .ref m40, .long 0])), (m17, .inl (k 0, 30, .inl (fun _ => 0))), (m16, .inl (k 0, 5, .inl (fun _ => 0))), (m1, .inl (k 0, 4, .inl fw))] H1 := hP
  have hD : va_D A [(mo, .inr (12, [.int 0, .ref m1, .ref m2, .ref m3, .ref m4, .ref m5, .int 0, .int 0, .int 0, .int 0, .int 0, .long 0, .int 0, .int 0, .int 0, .int (-1), .ref m16, .ref m17, .ref m18, .ref m19, .ref m20, .ref m21, .ref m22, .ref m23, .int 0, .ref m25, .ref m26, .ref m27, .ref m28, .ref m29, .int 0, .ref m31, .ref m32, .ref m33, .int 0, .int 0, .int 0, .ref m37, .ref m38, .ref m39, .ref m40, .long 0])), (m17, .inl (k 0, 30, .inl (fun _ => 0))), (m16, .inl (k 0, 5, .inl (fun _ => 0))), (m1, .inl (k 0, 4, .inl fw))] := hD
  generalize H1 = H at hP hS ⊢
  have hw_2 : (r_1.toInt = 1 ∧ 0 ≤ p0.toInt64.toInt ∧ p0.toInt64.toInt ≤ 5) ∨ (r_1.toInt = 0 ∧ (p0.toInt64.toInt < 0 ∨ 5 < p0.toInt64.toInt)) := hw
  simp only [Int32.toInt_toInt64] at hw_2
  clear hw
  refine lv_if_eq (tgt := 24) hx hb dX12_count_14 (by decide) (fun h_3 => ?_) (fun h_3 => ?_)
  · skip
    have zh_3 : r_1.toInt = 0 := z_eq h_3
    refine lv_iconst (v := 0) hx hb dX12_count_24 (by decide) ?_
    refine lv_istore_n (lv' := [(2, .int 0), (0, .ref mo), (1, .int p0)]) hx hb dX12_count_25 rfl hl (by decide) rfl (fun ls hl => ?_)
    refine lv_iload_n hx hb dX12_count_26 rfl (lv_at hl 2 rfl) ?_
    by_cases h_4 : p0 = 6
    · skip
      refine lv_tableIn (off := 25) (tgt := 52) hx hb dX12_count_27 (by rw [h_4]; decide) (by rw [h_4]; decide) (by rw [h_4]; decide) (by decide) ?_
      have zh_4 : p0.toInt = 6 := z_eq h_4
      refine lv_aload_n hx hb dX12_count_52 rfl (lv_at hl 1 rfl) ?_
      refine va_get (D := D) (ci := 12) (v := .ref m16) (C := RX12) (T := TX12) (N := 42) hx hb hts iT_X12 hown hK hP 0 rfl rfl 16 (by decide) (hts _ tw_6_69) (fun _ h9 => h9) rfl dX12_count_53 ?_
      refine lv_iconst (v := 0) hx hb dX12_count_56 (by decide) ?_
      refine va_iald hx hb hK hP 2 0 rfl rfl (z_in (by decide) (by decide)) dX12_count_57 ?_
      refine lv_topi (fun x_5 ex_5 => ?_)
      obtain rfl : x_5 = 0 := ex_5.trans rfl
      have hP9 := hP.sub (ws' := [(mo, .inr (12, [.int 0, .ref m1, .ref m2, .ref m3, .ref m4, .ref m5, .int 0, .int 0, .int 0, .int 0, .int 0, .long 0, .int 0, .int 0, .int 0, .int (-1), .ref m16, .ref m17, .ref m18, .ref m19, .ref m20, .ref m21, .ref m22, .ref m23, .int 0, .ref m25, .ref m26, .ref m27, .ref m28, .ref m29, .int 0, .ref m31, .ref m32, .ref m33, .int 0, .int 0, .int 0, .ref m37, .ref m38, .ref m39, .ref m40, .long 0])), (m17, .inl (k 0, 30, .inl (fun _ => 0))), (m16, .inl (k 0, 5, .inl (fun _ => 0))), (m1, .inl (k 0, 4, .inl fw))]) [0, 1, 2, 3] rfl
      have hD9 := hD.sub (ws' := [(mo, .inr (12, [.int 0, .ref m1, .ref m2, .ref m3, .ref m4, .ref m5, .int 0, .int 0, .int 0, .int 0, .int 0, .long 0, .int 0, .int 0, .int 0, .int (-1), .ref m16, .ref m17, .ref m18, .ref m19, .ref m20, .ref m21, .ref m22, .ref m23, .int 0, .ref m25, .ref m26, .ref m27, .ref m28, .ref m29, .int 0, .ref m31, .ref m32, .ref m33, .int 0, .int 0, .int 0, .ref m37, .ref m38, .ref m39, .ref m40, .long 0])), (m17, .inl (k 0, 30, .inl (fun _ => 0))), (m16, .inl (k 0, 5, .inl (fun _ => 0))), (m1, .inl (k 0, 4, .inl fw))]) [0, 1, 2, 3] (by decide) rfl
      exact W.iret (v := 0) hx hb hr (fun tZ ht hW => ⟨⟨0, (), rfl, (show 0 = sp_count p0 from by unfold sp_count; first | (rw [if_neg (by omega)]) | (rw [if_pos (by omega)])), by rw [ht]; exact hP9, va_K.moved hW.alike hK, hD9⟩, hS.F ht⟩) hS.2.2 dX12_count_58
    have zh_4 : ¬ p0.toInt = 6 := z_ne h_4
    by_cases h_6 : p0 = 7
    · skip
      refine lv_tableIn (off := 32) (tgt := 59) hx hb dX12_count_27 (by rw [h_6]; decide) (by rw [h_6]; decide) (by rw [h_6]; decide) (by decide) ?_
      have zh_6 : p0.toInt = 7 := z_eq h_6
      refine lv_aload_n hx hb dX12_count_59 rfl (lv_at hl 1 rfl) ?_
      refine va_get (D := D) (ci := 12) (v := .int 0) (C := RX12) (T := TX12) (N := 42) hx hb hts iT_X12 hown hK hP 0 rfl rfl 6 (by decide) (hts _ tw_6_59) (fun _ h9 => h9) rfl dX12_count_60 ?_
      have hP9 := hP.sub (ws' := [(mo, .inr (12, [.int 0, .ref m1, .ref m2, .ref m3, .ref m4, .ref m5, .int 0, .int 0, .int 0, .int 0, .int 0, .long 0, .int 0, .int 0, .int 0, .int (-1), .ref m16, .ref m17, .ref m18, .ref m19, .ref m20, .ref m21, .ref m22, .ref m23, .int 0, .ref m25, .ref m26, .ref m27, .ref m28, .ref m29, .int 0, .ref m31, .ref m32, .ref m33, .int 0, .int 0, .int 0, .ref m37, .ref m38, .ref m39, .ref m40, .long 0])), (m17, .inl (k 0, 30, .inl (fun _ => 0))), (m16, .inl (k 0, 5, .inl (fun _ => 0))), (m1, .inl (k 0, 4, .inl fw))]) [0, 1, 2, 3] rfl
      have hD9 := hD.sub (ws' := [(mo, .inr (12, [.int 0, .ref m1, .ref m2, .ref m3, .ref m4, .ref m5, .int 0, .int 0, .int 0, .int 0, .int 0, .long 0, .int 0, .int 0, .int 0, .int (-1), .ref m16, .ref m17, .ref m18, .ref m19, .ref m20, .ref m21, .ref m22, .ref m23, .int 0, .ref m25, .ref m26, .ref m27, .ref m28, .ref m29, .int 0, .ref m31, .ref m32, .ref m33, .int 0, .int 0, .int 0, .ref m37, .ref m38, .ref m39, .ref m40, .long 0])), (m17, .inl (k 0, 30, .inl (fun _ => 0))), (m16, .inl (k 0, 5, .inl (fun _ => 0))), (m1, .inl (k 0, 4, .inl fw))]) [0, 1, 2, 3] (by decide) rfl
      exact W.iret (v := 0) hx hb hr (fun tZ ht hW => ⟨⟨0, (), rfl, (show 0 = sp_count p0 from by unfold sp_count; first | (rw [if_neg (by omega)]) | (rw [if_pos (by omega)])), by rw [ht]; exact hP9, va_K.moved hW.alike hK, hD9⟩, hS.F ht⟩) hS.2.2 dX12_count_63
    have zh_6 : ¬ p0.toInt = 7 := z_ne h_6
    by_cases h_7 : p0 = 8
    · skip
      refine lv_tableIn (off := 37) (tgt := 64) hx hb dX12_count_27 (by rw [h_7]; decide) (by rw [h_7]; decide) (by rw [h_7]; decide) (by decide) ?_
      have zh_7 : p0.toInt = 8 := z_eq h_7
      refine lv_iconst (v := 0) hx hb dX12_count_64 (by decide) ?_
      refine lv_istore_n (lv' := [(3, .int 0), (2, .int 0), (0, .ref mo), (1, .int p0)]) hx hb dX12_count_65 rfl hl (by decide) rfl (fun ls hl => ?_)
      refine lv_iload_n hx hb dX12_count_66 rfl (lv_at hl 0 rfl) ?_
      refine lv_iconst (v := 4) hx hb dX12_count_67 (by decide) ?_
      refine lv_icmp_ge (tgt := 95) hx hb dX12_count_68 (by decide) (fun c9 => absurd c9 (by decide)) (fun _ => ?_)
      refine lv_iload_n hx hb dX12_count_71 rfl (lv_at hl 1 rfl) ?_
      refine lv_aload_n hx hb dX12_count_72 rfl (lv_at hl 2 rfl) ?_
      refine va_get (D := D) (ci := 12) (v := .ref m1) (C := RX12) (T := TX12) (N := 42) hx hb hts iT_X12 hown hK hP 0 rfl rfl 1 (by decide) (hts _ tw_6_54) (fun _ h9 => h9) rfl dX12_count_73 ?_
      refine lv_iload_n hx hb dX12_count_76 rfl (lv_at hl 0 rfl) ?_
      refine va_iald hx hb hK hP 3 0 rfl rfl (z_in (by decide) (by decide)) dX12_count_77 ?_
      refine lv_topi (fun x_8 ex_8 => ?_)
      obtain rfl : x_8 = (-1) := ex_8.trans (hfw _ (by decide))
      refine lv_iconst (v := (-1)) hx hb dX12_count_78 (by decide) ?_
      refine lv_icmp_ne (tgt := 86) hx hb dX12_count_79 (by decide) (fun c9 => absurd c9 (by decide)) (fun _ => ?_)
      refine lv_iconst (v := 0) hx hb dX12_count_82 (by decide) ?_
      refine lv_goto (tgt := 87) hx hb dX12_count_83 (by decide) ?_
      refine lv_iadd hx hb dX12_count_87 ?_
      refine lv_topi (fun x_9 ex_9 => ?_)
      obtain rfl : x_9 = 0 := ex_9.trans (by decide)
      refine lv_istore_n (lv' := [(2, .int 0), (3, .int 0), (0, .ref mo), (1, .int p0)]) hx hb dX12_count_88 rfl hl (by decide) rfl (fun ls hl => ?_)
      refine lv_iinc (v := 1) (lv' := [(3, .int 1), (2, .int 0), (0, .ref mo), (1, .int p0)]) hx hb dX12_count_89 hl (k := 1) rfl (by decide) (by decide) rfl (fun ls hl => ?_)
      refine lv_goto (tgt := 66) hx hb dX12_count_92 (by decide) ?_
      refine lv_iload_n hx hb dX12_count_66 rfl (lv_at hl 0 rfl) ?_
      refine lv_iconst (v := 4) hx hb dX12_count_67 (by decide) ?_
      refine lv_icmp_ge (tgt := 95) hx hb dX12_count_68 (by decide) (fun c9 => absurd c9 (by decide)) (fun _ => ?_)
      refine lv_iload_n hx hb dX12_count_71 rfl (lv_at hl 1 rfl) ?_
      refine lv_aload_n hx hb dX12_count_72 rfl (lv_at hl 2 rfl) ?_
      refine va_get (D := D) (ci := 12) (v := .ref m1) (C := RX12) (T := TX12) (N := 42) hx hb hts iT_X12 hown hK hP 0 rfl rfl 1 (by decide) (hts _ tw_6_54) (fun _ h9 => h9) rfl dX12_count_73 ?_
      refine lv_iload_n hx hb dX12_count_76 rfl (lv_at hl 0 rfl) ?_
      refine va_iald hx hb hK hP 3 0 rfl rfl (z_in (by decide) (by decide)) dX12_count_77 ?_
      refine lv_topi (fun x_11 ex_11 => ?_)
      obtain rfl : x_11 = (-1) := ex_11.trans (hfw _ (by decide))
      refine lv_iconst (v := (-1)) hx hb dX12_count_78 (by decide) ?_
      refine lv_icmp_ne (tgt := 86) hx hb dX12_count_79 (by decide) (fun c9 => absurd c9 (by decide)) (fun _ => ?_)
      refine lv_iconst (v := 0) hx hb dX12_count_82 (by decide) ?_
      refine lv_goto (tgt := 87) hx hb dX12_count_83 (by decide) ?_
      refine lv_iadd hx hb dX12_count_87 ?_
      refine lv_topi (fun x_12 ex_12 => ?_)
      obtain rfl : x_12 = 0 := ex_12.trans (by decide)
      refine lv_istore_n (lv' := [(2, .int 0), (3, .int 1), (0, .ref mo), (1, .int p0)]) hx hb dX12_count_88 rfl hl (by decide) rfl (fun ls hl => ?_)
      refine lv_iinc (v := 2) (lv' := [(3, .int 2), (2, .int 0), (0, .ref mo), (1, .int p0)]) hx hb dX12_count_89 hl (k := 1) rfl (by decide) (by decide) rfl (fun ls hl => ?_)
      refine lv_goto (tgt := 66) hx hb dX12_count_92 (by decide) ?_
      refine lv_iload_n hx hb dX12_count_66 rfl (lv_at hl 0 rfl) ?_
      refine lv_iconst (v := 4) hx hb dX12_count_67 (by decide) ?_
      refine lv_icmp_ge (tgt := 95) hx hb dX12_count_68 (by decide) (fun c9 => absurd c9 (by decide)) (fun _ => ?_)
      refine lv_iload_n hx hb dX12_count_71 rfl (lv_at hl 1 rfl) ?_
      refine lv_aload_n hx hb dX12_count_72 rfl (lv_at hl 2 rfl) ?_
      refine va_get (D := D) (ci := 12) (v := .ref m1) (C := RX12) (T := TX12) (N := 42) hx hb hts iT_X12 hown hK hP 0 rfl rfl 1 (by decide) (hts _ tw_6_54) (fun _ h9 => h9) rfl dX12_count_73 ?_
      refine lv_iload_n hx hb dX12_count_76 rfl (lv_at hl 0 rfl) ?_
      refine va_iald hx hb hK hP 3 0 rfl rfl (z_in (by decide) (by decide)) dX12_count_77 ?_
      refine lv_topi (fun x_14 ex_14 => ?_)
      obtain rfl : x_14 = (-1) := ex_14.trans (hfw _ (by decide))
      refine lv_iconst (v := (-1)) hx hb dX12_count_78 (by decide) ?_
      refine lv_icmp_ne (tgt := 86) hx hb dX12_count_79 (by decide) (fun c9 => absurd c9 (by decide)) (fun _ => ?_)
      refine lv_iconst (v := 0) hx hb dX12_count_82 (by decide) ?_
      refine lv_goto (tgt := 87) hx hb dX12_count_83 (by decide) ?_
      refine lv_iadd hx hb dX12_count_87 ?_
      refine lv_topi (fun x_15 ex_15 => ?_)
      obtain rfl : x_15 = 0 := ex_15.trans (by decide)
      refine lv_istore_n (lv' := [(2, .int 0), (3, .int 2), (0, .ref mo), (1, .int p0)]) hx hb dX12_count_88 rfl hl (by decide) rfl (fun ls hl => ?_)
      refine lv_iinc (v := 3) (lv' := [(3, .int 3), (2, .int 0), (0, .ref mo), (1, .int p0)]) hx hb dX12_count_89 hl (k := 1) rfl (by decide) (by decide) rfl (fun ls hl => ?_)
      refine lv_goto (tgt := 66) hx hb dX12_count_92 (by decide) ?_
      refine lv_iload_n hx hb dX12_count_66 rfl (lv_at hl 0 rfl) ?_
      refine lv_iconst (v := 4) hx hb dX12_count_67 (by decide) ?_
      refine lv_icmp_ge (tgt := 95) hx hb dX12_count_68 (by decide) (fun c9 => absurd c9 (by decide)) (fun _ => ?_)
      refine lv_iload_n hx hb dX12_count_71 rfl (lv_at hl 1 rfl) ?_
      refine lv_aload_n hx hb dX12_count_72 rfl (lv_at hl 2 rfl) ?_
      refine va_get (D := D) (ci := 12) (v := .ref m1) (C := RX12) (T := TX12) (N := 42) hx hb hts iT_X12 hown hK hP 0 rfl rfl 1 (by decide) (hts _ tw_6_54) (fun _ h9 => h9) rfl dX12_count_73 ?_
      refine lv_iload_n hx hb dX12_count_76 rfl (lv_at hl 0 rfl) ?_
      refine va_iald hx hb hK hP 3 0 rfl rfl (z_in (by decide) (by decide)) dX12_count_77 ?_
      refine lv_topi (fun x_17 ex_17 => ?_)
      obtain rfl : x_17 = (-1) := ex_17.trans (hfw _ (by decide))
      refine lv_iconst (v := (-1)) hx hb dX12_count_78 (by decide) ?_
      refine lv_icmp_ne (tgt := 86) hx hb dX12_count_79 (by decide) (fun c9 => absurd c9 (by decide)) (fun _ => ?_)
      refine lv_iconst (v := 0) hx hb dX12_count_82 (by decide) ?_
      refine lv_goto (tgt := 87) hx hb dX12_count_83 (by decide) ?_
      refine lv_iadd hx hb dX12_count_87 ?_
      refine lv_topi (fun x_18 ex_18 => ?_)
      obtain rfl : x_18 = 0 := ex_18.trans (by decide)
      refine lv_istore_n (lv' := [(2, .int 0), (3, .int 3), (0, .ref mo), (1, .int p0)]) hx hb dX12_count_88 rfl hl (by decide) rfl (fun ls hl => ?_)
      refine lv_iinc (v := 4) (lv' := [(3, .int 4), (2, .int 0), (0, .ref mo), (1, .int p0)]) hx hb dX12_count_89 hl (k := 1) rfl (by decide) (by decide) rfl (fun ls hl => ?_)
      refine lv_goto (tgt := 66) hx hb dX12_count_92 (by decide) ?_
      refine lv_iload_n hx hb dX12_count_66 rfl (lv_at hl 0 rfl) ?_
      refine lv_iconst (v := 4) hx hb dX12_count_67 (by decide) ?_
      refine lv_icmp_ge (tgt := 95) hx hb dX12_count_68 (by decide) (fun _ => ?_) (fun c9 => absurd c9 (by decide))
      refine lv_iload_n hx hb dX12_count_95 rfl (lv_at hl 1 rfl) ?_
      have hP9 := hP.sub (ws' := [(mo, .inr (12, [.int 0, .ref m1, .ref m2, .ref m3, .ref m4, .ref m5, .int 0, .int 0, .int 0, .int 0, .int 0, .long 0, .int 0, .int 0, .int 0, .int (-1), .ref m16, .ref m17, .ref m18, .ref m19, .ref m20, .ref m21, .ref m22, .ref m23, .int 0, .ref m25, .ref m26, .ref m27, .ref m28, .ref m29, .int 0, .ref m31, .ref m32, .ref m33, .int 0, .int 0, .int 0, .ref m37, .ref m38, .ref m39, .ref m40, .long 0])), (m17, .inl (k 0, 30, .inl (fun _ => 0))), (m16, .inl (k 0, 5, .inl (fun _ => 0))), (m1, .inl (k 0, 4, .inl fw))]) [0, 1, 2, 3] rfl
      have hD9 := hD.sub (ws' := [(mo, .inr (12, [.int 0, .ref m1, .ref m2, .ref m3, .ref m4, .ref m5, .int 0, .int 0, .int 0, .int 0, .int 0, .long 0, .int 0, .int 0, .int 0, .int (-1), .ref m16, .ref m17, .ref m18, .ref m19, .ref m20, .ref m21, .ref m22, .ref m23, .int 0, .ref m25, .ref m26, .ref m27, .ref m28, .ref m29, .int 0, .ref m31, .ref m32, .ref m33, .int 0, .int 0, .int 0, .ref m37, .ref m38, .ref m39, .ref m40, .long 0])), (m17, .inl (k 0, 30, .inl (fun _ => 0))), (m16, .inl (k 0, 5, .inl (fun _ => 0))), (m1, .inl (k 0, 4, .inl fw))]) [0, 1, 2, 3] (by decide) rfl
      exact W.iret (v := 0) hx hb hr (fun tZ ht hW => ⟨⟨0, (), rfl, (show 0 = sp_count p0 from by unfold sp_count; first | (rw [if_neg (by omega)]) | (rw [if_pos (by omega)])), by rw [ht]; exact hP9, va_K.moved hW.alike hK, hD9⟩, hS.F ht⟩) hS.2.2 dX12_count_96
    have zh_7 : ¬ p0.toInt = 8 := z_ne h_7
    refine lv_tableOut (tgt := 97) hx hb dX12_count_27 (by omega) (by decide) ?_
    refine lv_iconst (v := (-1)) hx hb dX12_count_97 (by decide) ?_
    have hP9 := hP.sub (ws' := [(mo, .inr (12, [.int 0, .ref m1, .ref m2, .ref m3, .ref m4, .ref m5, .int 0, .int 0, .int 0, .int 0, .int 0, .long 0, .int 0, .int 0, .int 0, .int (-1), .ref m16, .ref m17, .ref m18, .ref m19, .ref m20, .ref m21, .ref m22, .ref m23, .int 0, .ref m25, .ref m26, .ref m27, .ref m28, .ref m29, .int 0, .ref m31, .ref m32, .ref m33, .int 0, .int 0, .int 0, .ref m37, .ref m38, .ref m39, .ref m40, .long 0])), (m17, .inl (k 0, 30, .inl (fun _ => 0))), (m16, .inl (k 0, 5, .inl (fun _ => 0))), (m1, .inl (k 0, 4, .inl fw))]) [0, 1, 2, 3] rfl
    have hD9 := hD.sub (ws' := [(mo, .inr (12, [.int 0, .ref m1, .ref m2, .ref m3, .ref m4, .ref m5, .int 0, .int 0, .int 0, .int 0, .int 0, .long 0, .int 0, .int 0, .int 0, .int (-1), .ref m16, .ref m17, .ref m18, .ref m19, .ref m20, .ref m21, .ref m22, .ref m23, .int 0, .ref m25, .ref m26, .ref m27, .ref m28, .ref m29, .int 0, .ref m31, .ref m32, .ref m33, .int 0, .int 0, .int 0, .ref m37, .ref m38, .ref m39, .ref m40, .long 0])), (m17, .inl (k 0, 30, .inl (fun _ => 0))), (m16, .inl (k 0, 5, .inl (fun _ => 0))), (m1, .inl (k 0, 4, .inl fw))]) [0, 1, 2, 3] (by decide) rfl
    exact W.iret (v := (-1)) hx hb hr (fun tZ ht hW => ⟨⟨(-1), (), rfl, (show (-1) = sp_count p0 from by unfold sp_count; first | (rw [if_neg (by omega)]) | (rw [if_pos (by omega)])), by rw [ht]; exact hP9, va_K.moved hW.alike hK, hD9⟩, hS.F ht⟩) hS.2.2 dX12_count_98
  · skip
    have zh_3 : ¬ r_1.toInt = 0 := z_ne h_3
    refine lv_aload_n hx hb dX12_count_17 rfl (lv_at hl 0 rfl) ?_
    refine va_get (D := D) (ci := 12) (v := .ref m17) (C := RX12) (T := TX12) (N := 42) hx hb hts iT_X12 hown hK hP 0 rfl rfl 17 (by decide) (hts _ tw_6_70) (fun _ h9 => h9) rfl dX12_count_18 ?_
    refine lv_iload_n hx hb dX12_count_21 rfl (lv_at hl 1 rfl) ?_
    refine va_iald hx hb hK hP 1 0 rfl rfl (z_in (by omega) (by omega)) dX12_count_22 ?_
    refine lv_topi (fun x_20 ex_20 => ?_)
    obtain rfl : x_20 = 0 := ex_20.trans rfl
    have hP9 := hP.sub (ws' := [(mo, .inr (12, [.int 0, .ref m1, .ref m2, .ref m3, .ref m4, .ref m5, .int 0, .int 0, .int 0, .int 0, .int 0, .long 0, .int 0, .int 0, .int 0, .int (-1), .ref m16, .ref m17, .ref m18, .ref m19, .ref m20, .ref m21, .ref m22, .ref m23, .int 0, .ref m25, .ref m26, .ref m27, .ref m28, .ref m29, .int 0, .ref m31, .ref m32, .ref m33, .int 0, .int 0, .int 0, .ref m37, .ref m38, .ref m39, .ref m40, .long 0])), (m17, .inl (k 0, 30, .inl (fun _ => 0))), (m16, .inl (k 0, 5, .inl (fun _ => 0))), (m1, .inl (k 0, 4, .inl fw))]) [0, 1, 2, 3] rfl
    have hD9 := hD.sub (ws' := [(mo, .inr (12, [.int 0, .ref m1, .ref m2, .ref m3, .ref m4, .ref m5, .int 0, .int 0, .int 0, .int 0, .int 0, .long 0, .int 0, .int 0, .int 0, .int (-1), .ref m16, .ref m17, .ref m18, .ref m19, .ref m20, .ref m21, .ref m22, .ref m23, .int 0, .ref m25, .ref m26, .ref m27, .ref m28, .ref m29, .int 0, .ref m31, .ref m32, .ref m33, .int 0, .int 0, .int 0, .ref m37, .ref m38, .ref m39, .ref m40, .long 0])), (m17, .inl (k 0, 30, .inl (fun _ => 0))), (m16, .inl (k 0, 5, .inl (fun _ => 0))), (m1, .inl (k 0, 4, .inl fw))]) [0, 1, 2, 3] (by decide) rfl
    exact W.iret (v := 0) hx hb hr (fun tZ ht hW => ⟨⟨0, (), rfl, (show 0 = sp_count p0 from by unfold sp_count; first | (rw [if_neg (by omega)]) | (rw [if_pos (by omega)])), by rw [ht]; exact hP9, va_K.moved hW.alike hK, hD9⟩, hS.F ht⟩) hS.2.2 dX12_count_23
set_option maxHeartbeats 4000000 in
set_option maxRecDepth 100000 in
theorem c_X12_image (l : Launch) (D : va_G) (k : Nat → ClassId) (mo : Nat) (m1 : Nat) (m2 : Nat) (m3 : Nat) (m4 : Nat) (m5 : Nat) (m16 : Nat) (m17 : Nat) (m18 : Nat) (m19 : Nat) (m20 : Nat) (m21 : Nat) (m22 : Nat) (m23 : Nat) (m25 : Nat) (m26 : Nat) (m27 : Nat) (m28 : Nat) (m29 : Nat) (m31 : Nat) (m32 : Nat) (m33 : Nat) (m37 : Nat) (m38 : Nat) (m39 : Nat) (m40 : Nat) (f16 : Nat → Int32) (f17 : Nat → Int32) (f18 : Nat → Int32) (f19 : Nat → Int32) (f20 : Nat → Int32) (f21 : Nat → Int32) (f22 : Nat → Int32) (fk : Nat → Int32) (p0 : Int32) (sz : Nat) : Met l yX12_image (ww yX12_image cX12_image 2 (some .int)) ({ frames := 2, cells := 0, slots := 0, locals := 46 }) (Pre0 D k [(mo, .inr (12, [.int 0, .ref m1, .ref m2, .ref m3, .ref m4, .ref m5, .int 0, .int 0, .int 0, .int 0, .int 0, .long 0, .int 0, .int 0, .int 0, .int (-1), .ref m16, .ref m17, .ref m18, .ref m19, .ref m20, .ref m21, .ref m22, .ref m23, .int 0, .ref m25, .ref m26, .ref m27, .ref m28, .ref m29, .int 0, .ref m31, .ref m32, .ref m33, .int 0, .int 0, .int 0, .ref m37, .ref m38, .ref m39, .ref m40, .long 0])), (m16, .inl (k 0, 5, .inl f16)), (m17, .inl (k 0, 30, .inl f17)), (m18, .inl (k 0, 250, .inl f18)), (m19, .inl (k 0, 40, .inl f19)), (m20, .inl (k 0, 120, .inl f20)), (m21, .inl (k 0, 20, .inl f21)), (m22, .inl (k 0, 600, .inl f22)), (m23, .inl (k 3, 3, .inl fk))] sz [.ref mo, .int p0]) (va_Qi (fun (r : Int32) (_ : Unit) => r = sp_image p0) (fun (_ : Unit) tZ => Bw D k (va_A [(mo, .inr (12, [.int 0, .ref m1, .ref m2, .ref m3, .ref m4, .ref m5, .int 0, .int 0, .int 0, .int 0, .int 0, .long 0, .int 0, .int 0, .int 0, .int (-1), .ref m16, .ref m17, .ref m18, .ref m19, .ref m20, .ref m21, .ref m22, .ref m23, .int 0, .ref m25, .ref m26, .ref m27, .ref m28, .ref m29, .int 0, .ref m31, .ref m32, .ref m33, .int 0, .int 0, .int 0, .ref m37, .ref m38, .ref m39, .ref m40, .long 0])), (m16, .inl (k 0, 5, .inl f16)), (m17, .inl (k 0, 30, .inl f17)), (m18, .inl (k 0, 250, .inl f18)), (m19, .inl (k 0, 40, .inl f19)), (m20, .inl (k 0, 120, .inl f20)), (m21, .inl (k 0, 20, .inl f21)), (m22, .inl (k 0, 600, .inl f22)), (m23, .inl (k 3, 3, .inl fk))] sz) [] tZ) (va_A [(mo, .inr (12, [.int 0, .ref m1, .ref m2, .ref m3, .ref m4, .ref m5, .int 0, .int 0, .int 0, .int 0, .int 0, .long 0, .int 0, .int 0, .int 0, .int (-1), .ref m16, .ref m17, .ref m18, .ref m19, .ref m20, .ref m21, .ref m22, .ref m23, .int 0, .ref m25, .ref m26, .ref m27, .ref m28, .ref m29, .int 0, .ref m31, .ref m32, .ref m33, .int 0, .int 0, .int 0, .ref m37, .ref m38, .ref m39, .ref m40, .long 0])), (m16, .inl (k 0, 5, .inl f16)), (m17, .inl (k 0, 30, .inl f17)), (m18, .inl (k 0, 250, .inl f18)), (m19, .inl (k 0, 40, .inl f19)), (m20, .inl (k 0, 120, .inl f20)), (m21, .inl (k 0, 20, .inl f21)), (m22, .inl (k 0, 600, .inl f22)), (m23, .inl (k 3, 3, .inl fk))] sz)) 0 0 (va_A [(mo, .inr (12, [.int 0, .ref m1, .ref m2, .ref m3, .ref m4, .ref m5, .int 0, .int 0, .int 0, .int 0, .int 0, .long 0, .int 0, .int 0, .int 0, .int (-1), .ref m16, .ref m17, .ref m18, .ref m19, .ref m20, .ref m21, .ref m22, .ref m23, .int 0, .ref m25, .ref m26, .ref m27, .ref m28, .ref m29, .int 0, .ref m31, .ref m32, .ref m33, .int 0, .int 0, .int 0, .ref m37, .ref m38, .ref m39, .ref m40, .long 0])), (m16, .inl (k 0, 5, .inl f16)), (m17, .inl (k 0, 30, .inl f17)), (m18, .inl (k 0, 250, .inl f18)), (m19, .inl (k 0, 40, .inl f19)), (m20, .inl (k 0, 120, .inl f20)), (m21, .inl (k 0, 20, .inl f21)), (m22, .inl (k 0, 600, .inl f22)), (m23, .inl (k 3, 3, .inl fk))] sz) := by
  refine Met.ofW (cc := cX12_image) (maxL := 2) (ret := (some .int)) (by decide +kernel) rfl ?_
  intro p e s m args below meth c s₁ B hml hv
  obtain ⟨rfl, hsz, hP, hK, hD0, hN⟩ := hv
  have hx := B.exec
  have hb := B.bytes
  have hr := B.returns
  have hts : ∀ w ∈ TT, w.before _ s = true := fun w h => atoms_spec (ws := ww yX12_image cX12_image 2 (some .int)) B.pre w (List.mem_cons_of_mem _ h)
  have hown : s.vm.findClass RX12 = some m.cls := findClass_of_methodNamed B.named
  have hlocks := B.notSynchronized
  subst hsz
  have hD := hD0.self (sz := s.heap.size)
  generalize hAe : va_A [(mo, .inr (12, [.int 0, .ref m1, .ref m2, .ref m3, .ref m4, .ref m5, .int 0, .int 0, .int 0, .int 0, .int 0, .long 0, .int 0, .int 0, .int 0, .int (-1), .ref m16, .ref m17, .ref m18, .ref m19, .ref m20, .ref m21, .ref m22, .ref m23, .int 0, .ref m25, .ref m26, .ref m27, .ref m28, .ref m29, .int 0, .ref m31, .ref m32, .ref m33, .int 0, .int 0, .int 0, .ref m37, .ref m38, .ref m39, .ref m40, .long 0])), (m16, .inl (k 0, 5, .inl f16)), (m17, .inl (k 0, 30, .inl f17)), (m18, .inl (k 0, 250, .inl f18)), (m19, .inl (k 0, 40, .inl f19)), (m20, .inl (k 0, 120, .inl f20)), (m21, .inl (k 0, 20, .inl f21)), (m22, .inl (k 0, 600, .inl f22)), (m23, .inl (k 3, 3, .inl fk))] s.heap.size = A at hD ⊢
  have hA : ∀ q : Nat, s.heap.size ≤ q → A q := fun q h => by rw [← hAe]; exact Or.inr h
  have hS : va_S A s.heap s.heap [] := va_S.rf
  have hl := lv_entry ([.ref mo, .int p0]) (n := 2) (Nat.le_of_ble_eq_true rfl)
  rw [lg_entry_eq]
  generalize (lg_sl ([.ref mo, .int p0]) ++ List.replicate (2 - (lg_sl ([.ref mo, .int p0])).length) Slot.unset).toArray = ls at hl ⊢
  have hl : lv_has ls 2 [(0, .ref mo), (1, .int p0)] := hl
  refine lv_aload_n hx hb dX12_image_0 rfl (lv_at hl 0 rfl) ?_
  refine lv_iconst (v := 0) hx hb dX12_image_1 (by decide) ?_
  refine va_put (D := D) (ci := 12) (v := .int 0) (ty := tyX12 0) (C := RX12) (T := TX12) (N := 42) hx hb hts iT_X12 tyX12 tyX12_ok nmX12 hown hK hP hD hS 0 rfl rfl 0 (by decide) (hts _ tw_6_53) (fun _ h9 => h9) rfl (tyX12_ok 0 (by decide)) rfl rfl (Nat.le_of_ble_eq_true rfl) dX12_image_2 (fun H locs hP hD hS => ?_)
  have hP : va_P D vwCl [(mo, .inr (12, [.int 0, .ref m1, .ref m2, .ref m3, .ref m4, .ref m5, .int 0, .int 0, .int 0, .int 0, .int 0, .long 0, .int 0, .int 0, .int 0, .int (-1), .ref m16, .ref m17, .ref m18, .ref m19, .ref m20, .ref m21, .ref m22, .ref m23, .int 0, .ref m25, .ref m26, .ref m27, .ref m28, .ref m29, .int 0, .ref m31, .ref m32, .ref m33, .int 0, .int 0, .int 0, .ref m37, .ref m38, .ref m39, .ref m40, .long 0])), (m16, .inl (k 0, 5, .inl f16)), (m17, .inl (k 0, 30, .inl f17)), (m18, .inl (k 0, 250, .inl f18)), (m19, .inl (k 0, 40, .inl f19)), (m20, .inl (k 0, 120, .inl f20)), (m21, .inl (k 0, 20, .inl f21)), (m22, .inl (k 0, 600, .inl f22)), (m23, .inl (k 3, 3, .inl fk))] H := hP
  have hD : va_D A [(mo, .inr (12, [.int 0, .ref m1, .ref m2, .ref m3, .ref m4, .ref m5, .int 0, .int 0, .int 0, .int 0, .int 0, .long 0, .int 0, .int 0, .int 0, .int (-1), .ref m16, .ref m17, .ref m18, .ref m19, .ref m20, .ref m21, .ref m22, .ref m23, .int 0, .ref m25, .ref m26, .ref m27, .ref m28, .ref m29, .int 0, .ref m31, .ref m32, .ref m33, .int 0, .int 0, .int 0, .ref m37, .ref m38, .ref m39, .ref m40, .long 0])), (m16, .inl (k 0, 5, .inl f16)), (m17, .inl (k 0, 30, .inl f17)), (m18, .inl (k 0, 250, .inl f18)), (m19, .inl (k 0, 40, .inl f19)), (m20, .inl (k 0, 120, .inl f20)), (m21, .inl (k 0, 20, .inl f21)), (m22, .inl (k 0, 600, .inl f22)), (m23, .inl (k 3, 3, .inl fk))] := hD
  refine lv_iload_n hx hb dX12_image_5 rfl (lv_at hl 1 rfl) ?_
  refine lv_i2l (v := p0.toInt64) hx hb dX12_image_6 rfl ?_
  refine lv_lconst (v := 0) hx hb dX12_image_7 (by decide) ?_
  refine lv_ldc2 (v := 2) hx hb hown (hts _ tw_9_10) dX12_image_8 ?_
  have hPc := hP.sub (ws' := []) [] rfl
  have hDc := hD.sub (ws' := []) [] (by decide) rfl
  have hFc := va_free (wc := []) hD hS hA [] rfl
  refine va_calli (va_runS (As := [.long p0.toInt64, .long 0, .long 2]) (rest := []) ⟨hx, hb, hml, hown, hts⟩ (c_X12_in l D k p0.toInt64 0 2 H.size) (va_cwS 3 hts (gS tw_6_188 tw_6_189 tw_1_13 tw_6_190) rfl rfl rfl hdS_X12_in ⟨Nat.le_of_ble_eq_true rfl, Nat.le_of_ble_eq_true rfl⟩) (cz_S hK hPc hDc hN [.long p0.toInt64, .long 0, .long 2]) rfl rfl hl.1 rfl (lv_room (Nat.le_of_ble_eq_true rfl)) dX12_image_11 ⟨Nat.le_of_ble_eq_true rfl, Nat.le_of_ble_eq_true rfl⟩) hS (fun q _ h => hFc q h) hFc (fun r_1 uZ tZ H1 locs ht hvm hw hB hz1 hk1 hS => ?_)
  obtain ⟨hP1, hK1, hD1⟩ := hB
  rw [ht] at hP1
  obtain ⟨hP, hD⟩ := va_join (wr := [(mo, .inr (12, [.int 0, .ref m1, .ref m2, .ref m3, .ref m4, .ref m5, .int 0, .int 0, .int 0, .int 0, .int 0, .long 0, .int 0, .int 0, .int 0, .int (-1), .ref m16, .ref m17, .ref m18, .ref m19, .ref m20, .ref m21, .ref m22, .ref m23, .int 0, .ref m25, .ref m26, .ref m27, .ref m28, .ref m29, .int 0, .ref m31, .ref m32, .ref m33, .int 0, .int 0, .int 0, .ref m37, .ref m38, .ref m39, .ref m40, .long 0])), (m16, .inl (k 0, 5, .inl f16)), (m17, .inl (k 0, 30, .inl f17)), (m18, .inl (k 0, 250, .inl f18)), (m19, .inl (k 0, 40, .inl f19)), (m20, .inl (k 0, 120, .inl f20)), (m21, .inl (k 0, 20, .inl f21)), (m22, .inl (k 0, 600, .inl f22)), (m23, .inl (k 3, 3, .inl fk))]) (w1 := []) hP hD [] [0, 1, 2, 3, 4, 5, 6, 7, 8] rfl rfl (by decide) (by decide) hk1 hFc hP1 hD1
  clear hK1 hP1 hD1 hPc hDc hFc
  clear hk1 hz1 ht hvm
  have hP : va_P D vwCl [(mo, .inr (12, [.int 0, .ref m1, .ref m2, .ref m3, .ref m4, .ref m5, .int 0, .int 0, .int 0, .int 0, .int 0, .long 0, .int 0, .int 0, .int 0, .int (-1), .ref m16, .ref m17, .ref m18, .ref m19, .ref m20, .ref m21, .ref m22, .ref m23, .int 0, .ref m25, .ref m26, .ref m27, .ref m28, .ref m29, .int 0, .ref m31, .ref m32, .ref m33, .int 0, .int 0, .int 0, .ref m37, .ref m38, .ref m39, .ref m40, .long 0])), (m16, .inl (k 0, 5, .inl f16)), (m17, .inl (k 0, 30, .inl f17)), (m18, .inl (k 0, 250, .inl f18)), (m19, .inl (k 0, 40, .inl f19)), (m20, .inl (k 0, 120, .inl f20)), (m21, .inl (k 0, 20, .inl f21)), (m22, .inl (k 0, 600, .inl f22)), (m23, .inl (k 3, 3, .inl fk))] H1 := hP
  have hD : va_D A [(mo, .inr (12, [.int 0, .ref m1, .ref m2, .ref m3, .ref m4, .ref m5, .int 0, .int 0, .int 0, .int 0, .int 0, .long 0, .int 0, .int 0, .int 0, .int (-1), .ref m16, .ref m17, .ref m18, .ref m19, .ref m20, .ref m21, .ref m22, .ref m23, .int 0, .ref m25, .ref m26, .ref m27, .ref m28, .ref m29, .int 0, .ref m31, .ref m32, .ref m33, .int 0, .int 0, .int 0, .ref m37, .ref m38, .ref m39, .ref m40, .long 0])), (m16, .inl (k 0, 5, .inl f16)), (m17, .inl (k 0, 30, .inl f17)), (m18, .inl (k 0, 250, .inl f18)), (m19, .inl (k 0, 40, .inl f19)), (m20, .inl (k 0, 120, .inl f20)), (m21, .inl (k 0, 20, .inl f21)), (m22, .inl (k 0, 600, .inl f22)), (m23, .inl (k 3, 3, .inl fk))] := hD
  generalize H1 = H at hP hS ⊢
  have hw_2 : (r_1.toInt = 1 ∧ 0 ≤ p0.toInt64.toInt ∧ p0.toInt64.toInt ≤ 2) ∨ (r_1.toInt = 0 ∧ (p0.toInt64.toInt < 0 ∨ 2 < p0.toInt64.toInt)) := hw
  simp only [Int32.toInt_toInt64] at hw_2
  clear hw
  refine lv_if_ne (tgt := 20) hx hb dX12_image_14 (by decide) (fun h_3 => ?_) (fun h_3 => ?_)
  · skip
    have zh_3 : ¬ r_1.toInt = 0 := z_ne h_3
    rcases z_c3 p0 (by omega) (by omega) with rfl | rfl | rfl
    · skip
      refine lv_aload_n hx hb dX12_image_20 rfl (lv_at hl 0 rfl) ?_
      refine lv_iconst (v := 0) hx hb dX12_image_21 (by decide) ?_
      refine lv_iconst (v := 1) hx hb dX12_image_22 (by decide) ?_
      refine lv_iload_n hx hb dX12_image_23 rfl (lv_at hl 1 rfl) ?_
      refine lv_iadd hx hb dX12_image_24 ?_
      refine lv_topi (fun x_4 ex_4 => ?_)
      obtain rfl : x_4 = 1 := ex_4.trans (by decide)
      have hPc := hP.sub (ws' := [(mo, .inr (12, [.int 0, .ref m1, .ref m2, .ref m3, .ref m4, .ref m5, .int 0, .int 0, .int 0, .int 0, .int 0, .long 0, .int 0, .int 0, .int 0, .int (-1), .ref m16, .ref m17, .ref m18, .ref m19, .ref m20, .ref m21, .ref m22, .ref m23, .int 0, .ref m25, .ref m26, .ref m27, .ref m28, .ref m29, .int 0, .ref m31, .ref m32, .ref m33, .int 0, .int 0, .int 0, .ref m37, .ref m38, .ref m39, .ref m40, .long 0])), (m16, .inl (k 0, 5, .inl f16)), (m17, .inl (k 0, 30, .inl f17)), (m18, .inl (k 0, 250, .inl f18)), (m19, .inl (k 0, 40, .inl f19)), (m20, .inl (k 0, 120, .inl f20)), (m21, .inl (k 0, 20, .inl f21)), (m22, .inl (k 0, 600, .inl f22))]) [0, 1, 2, 3, 4, 5, 6, 7] rfl
      have hDc := hD.sub (ws' := [(mo, .inr (12, [.int 0, .ref m1, .ref m2, .ref m3, .ref m4, .ref m5, .int 0, .int 0, .int 0, .int 0, .int 0, .long 0, .int 0, .int 0, .int 0, .int (-1), .ref m16, .ref m17, .ref m18, .ref m19, .ref m20, .ref m21, .ref m22, .ref m23, .int 0, .ref m25, .ref m26, .ref m27, .ref m28, .ref m29, .int 0, .ref m31, .ref m32, .ref m33, .int 0, .int 0, .int 0, .ref m37, .ref m38, .ref m39, .ref m40, .long 0])), (m16, .inl (k 0, 5, .inl f16)), (m17, .inl (k 0, 30, .inl f17)), (m18, .inl (k 0, 250, .inl f18)), (m19, .inl (k 0, 40, .inl f19)), (m20, .inl (k 0, 120, .inl f20)), (m21, .inl (k 0, 20, .inl f21)), (m22, .inl (k 0, 600, .inl f22))]) [0, 1, 2, 3, 4, 5, 6, 7] (by decide) rfl
      have hFc := va_free (wc := [(mo, .inr (12, [.int 0, .ref m1, .ref m2, .ref m3, .ref m4, .ref m5, .int 0, .int 0, .int 0, .int 0, .int 0, .long 0, .int 0, .int 0, .int 0, .int (-1), .ref m16, .ref m17, .ref m18, .ref m19, .ref m20, .ref m21, .ref m22, .ref m23, .int 0, .ref m25, .ref m26, .ref m27, .ref m28, .ref m29, .int 0, .ref m31, .ref m32, .ref m33, .int 0, .int 0, .int 0, .ref m37, .ref m38, .ref m39, .ref m40, .long 0])), (m16, .inl (k 0, 5, .inl f16)), (m17, .inl (k 0, 30, .inl f17)), (m18, .inl (k 0, 250, .inl f18)), (m19, .inl (k 0, 40, .inl f19)), (m20, .inl (k 0, 120, .inl f20)), (m21, .inl (k 0, 20, .inl f21)), (m22, .inl (k 0, 600, .inl f22))]) hD hS hA [0, 1, 2, 3, 4, 5, 6, 7] rfl
      refine va_callv (va_runV (C := RX12) (As := [.int 0, .int 1]) (rest := []) ⟨hx, hb, hml, hown, hts⟩ (c_X12_copyTown_0_1 l D k mo m1 m2 m3 m4 m5 m16 m17 m18 m19 m20 m21 m22 m23 m25 m26 m27 m28 m29 m31 m32 m33 m37 m38 m39 m40 f16 f17 f18 f19 f20 f21 f22 H.size) (cwV 2 hts (gV tw_7_87 tw_7_89 tw_p_57 tw_1_13 tw_7_90) rfl rfl rfl hdV_X12_copyTown ⟨Nat.le_of_ble_eq_true rfl, Nat.le_of_ble_eq_true rfl⟩) (cz_V hK hPc hDc hN (ci := 12) (q0 := 0) rfl rfl [.int 0, .int 1]) rfl rfl hl.1 rfl (lv_room (Nat.le_of_ble_eq_true rfl)) dX12_image_25 ⟨Nat.le_of_ble_eq_true rfl, Nat.le_of_ble_eq_true rfl⟩) hS (fun q _ h => hFc q h) hFc (fun uZ tZ H1 locs ht hvm hw hB hz1 hk1 hS => ?_)
      obtain ⟨o_6, o_7, o_8, o_9, o_10, o_11, o_12⟩ := uZ
      obtain ⟨hP1, hK1, hD1⟩ := hB
      rw [ht] at hP1
      obtain ⟨hP, hD⟩ := va_join (wr := [(m23, .inl (k 3, 3, .inl fk))]) (w1 := [(mo, .inr (12, [.int 0, .ref m1, .ref m2, .ref m3, .ref m4, .ref m5, .int 0, .int 0, .int 0, .int 0, .int 0, .long 0, .int 0, .int 0, .int 0, .int (-1), .ref m16, .ref m17, .ref m18, .ref m19, .ref m20, .ref m21, .ref m22, .ref m23, .int 0, .ref m25, .ref m26, .ref m27, .ref m28, .ref m29, .int 0, .ref m31, .ref m32, .ref m33, .int 0, .int 0, .int 0, .ref m37, .ref m38, .ref m39, .ref m40, .long 0])), (m16, .inl (k 0, 5, .inl o_6)), (m17, .inl (k 0, 30, .inl o_7)), (m18, .inl (k 0, 250, .inl o_8)), (m19, .inl (k 0, 40, .inl o_9)), (m20, .inl (k 0, 120, .inl o_10)), (m21, .inl (k 0, 20, .inl o_11)), (m22, .inl (k 0, 600, .inl o_12))]) hP hD [0, 1, 2, 3, 4, 5, 6, 7] [8] rfl rfl (by decide) (by decide) hk1 hFc hP1 hD1
      clear hK1 hP1 hD1 hPc hDc hFc
      clear hk1 hz1 ht hvm
      have hP : va_P D vwCl [(m23, .inl (k 3, 3, .inl fk)), (mo, .inr (12, [.int 0, .ref m1, .ref m2, .ref m3, .ref m4, .ref m5, .int 0, .int 0, .int 0, .int 0, .int 0, .long 0, .int 0, .int 0, .int 0, .int (-1), .ref m16, .ref m17, .ref m18, .ref m19, .ref m20, .ref m21, .ref m22, .ref m23, .int 0, .ref m25, .ref m26, .ref m27, .ref m28, .ref m29, .int 0, .ref m31, .ref m32, .ref m33, .int 0, .int 0, .int 0, .ref m37, .ref m38, .ref m39, .ref m40, .long 0])), (m16, .inl (k 0, 5, .inl o_6)), (m17, .inl (k 0, 30, .inl o_7)), (m18, .inl (k 0, 250, .inl o_8)), (m19, .inl (k 0, 40, .inl o_9)), (m20, .inl (k 0, 120, .inl o_10)), (m21, .inl (k 0, 20, .inl o_11)), (m22, .inl (k 0, 600, .inl o_12))] H1 := hP
      have hD : va_D A [(m23, .inl (k 3, 3, .inl fk)), (mo, .inr (12, [.int 0, .ref m1, .ref m2, .ref m3, .ref m4, .ref m5, .int 0, .int 0, .int 0, .int 0, .int 0, .long 0, .int 0, .int 0, .int 0, .int (-1), .ref m16, .ref m17, .ref m18, .ref m19, .ref m20, .ref m21, .ref m22, .ref m23, .int 0, .ref m25, .ref m26, .ref m27, .ref m28, .ref m29, .int 0, .ref m31, .ref m32, .ref m33, .int 0, .int 0, .int 0, .ref m37, .ref m38, .ref m39, .ref m40, .long 0])), (m16, .inl (k 0, 5, .inl o_6)), (m17, .inl (k 0, 30, .inl o_7)), (m18, .inl (k 0, 250, .inl o_8)), (m19, .inl (k 0, 40, .inl o_9)), (m20, .inl (k 0, 120, .inl o_10)), (m21, .inl (k 0, 20, .inl o_11)), (m22, .inl (k 0, 600, .inl o_12))] := hD
      generalize H1 = H at hP hS ⊢
      have hw_13 : (∀ j : Nat, f16 j = (0 : Int32)) → ∀ j : Nat, o_6 j = (0 : Int32) := hw
      clear hw
      refine lv_aload_n hx hb dX12_image_28 rfl (lv_at hl 0 rfl) ?_
      refine va_get (D := D) (ci := 12) (v := .ref m23) (C := RX12) (T := TX12) (N := 42) hx hb hts iT_X12 hown hK hP 1 rfl rfl 23 (by decide) (hts _ tw_6_76) (fun _ h9 => h9) rfl dX12_image_29 ?_
      refine lv_iload_n hx hb dX12_image_32 rfl (lv_at hl 1 rfl) ?_
      refine lv_iconst (v := 1) hx hb dX12_image_33 (by decide) ?_
      refine va_zast hx hb hK hP hD hS 0 3 rfl rfl (z_in (by decide) (by decide)) dX12_image_34 (fun H locs hP hD hS => ?_)
      have hP : va_P D vwCl [(m23, .inl (k 3, 3, .inl (upd fk 0 (vp_nar .boolean 1)))), (mo, .inr (12, [.int 0, .ref m1, .ref m2, .ref m3, .ref m4, .ref m5, .int 0, .int 0, .int 0, .int 0, .int 0, .long 0, .int 0, .int 0, .int 0, .int (-1), .ref m16, .ref m17, .ref m18, .ref m19, .ref m20, .ref m21, .ref m22, .ref m23, .int 0, .ref m25, .ref m26, .ref m27, .ref m28, .ref m29, .int 0, .ref m31, .ref m32, .ref m33, .int 0, .int 0, .int 0, .ref m37, .ref m38, .ref m39, .ref m40, .long 0])), (m16, .inl (k 0, 5, .inl o_6)), (m17, .inl (k 0, 30, .inl o_7)), (m18, .inl (k 0, 250, .inl o_8)), (m19, .inl (k 0, 40, .inl o_9)), (m20, .inl (k 0, 120, .inl o_10)), (m21, .inl (k 0, 20, .inl o_11)), (m22, .inl (k 0, 600, .inl o_12))] H := hP
      have hD : va_D A [(m23, .inl (k 3, 3, .inl (upd fk 0 (vp_nar .boolean 1)))), (mo, .inr (12, [.int 0, .ref m1, .ref m2, .ref m3, .ref m4, .ref m5, .int 0, .int 0, .int 0, .int 0, .int 0, .long 0, .int 0, .int 0, .int 0, .int (-1), .ref m16, .ref m17, .ref m18, .ref m19, .ref m20, .ref m21, .ref m22, .ref m23, .int 0, .ref m25, .ref m26, .ref m27, .ref m28, .ref m29, .int 0, .ref m31, .ref m32, .ref m33, .int 0, .int 0, .int 0, .ref m37, .ref m38, .ref m39, .ref m40, .long 0])), (m16, .inl (k 0, 5, .inl o_6)), (m17, .inl (k 0, 30, .inl o_7)), (m18, .inl (k 0, 250, .inl o_8)), (m19, .inl (k 0, 40, .inl o_9)), (m20, .inl (k 0, 120, .inl o_10)), (m21, .inl (k 0, 20, .inl o_11)), (m22, .inl (k 0, 600, .inl o_12))] := hD
      refine lv_iconst (v := 0) hx hb dX12_image_35 (by decide) ?_
      have hP9 := hP.sub (ws' := []) [] rfl
      have hD9 := hD.sub (ws' := []) [] (by decide) rfl
      exact W.iret (v := 0) hx hb hr (fun tZ ht hW => ⟨⟨0, (), rfl, (show 0 = sp_image 0 from by unfold sp_image; first | (rw [if_neg (by omega)]) | (rw [if_pos (by omega)])), by rw [ht]; exact hP9, va_K.moved hW.alike hK, hD9⟩, hS.F ht⟩) hS.2.2 dX12_image_36
    · skip
      refine lv_aload_n hx hb dX12_image_20 rfl (lv_at hl 0 rfl) ?_
      refine lv_iconst (v := 0) hx hb dX12_image_21 (by decide) ?_
      refine lv_iconst (v := 1) hx hb dX12_image_22 (by decide) ?_
      refine lv_iload_n hx hb dX12_image_23 rfl (lv_at hl 1 rfl) ?_
      refine lv_iadd hx hb dX12_image_24 ?_
      refine lv_topi (fun x_14 ex_14 => ?_)
      obtain rfl : x_14 = 2 := ex_14.trans (by decide)
      have hPc := hP.sub (ws' := [(mo, .inr (12, [.int 0, .ref m1, .ref m2, .ref m3, .ref m4, .ref m5, .int 0, .int 0, .int 0, .int 0, .int 0, .long 0, .int 0, .int 0, .int 0, .int (-1), .ref m16, .ref m17, .ref m18, .ref m19, .ref m20, .ref m21, .ref m22, .ref m23, .int 0, .ref m25, .ref m26, .ref m27, .ref m28, .ref m29, .int 0, .ref m31, .ref m32, .ref m33, .int 0, .int 0, .int 0, .ref m37, .ref m38, .ref m39, .ref m40, .long 0])), (m16, .inl (k 0, 5, .inl f16)), (m17, .inl (k 0, 30, .inl f17)), (m18, .inl (k 0, 250, .inl f18)), (m19, .inl (k 0, 40, .inl f19)), (m20, .inl (k 0, 120, .inl f20)), (m21, .inl (k 0, 20, .inl f21)), (m22, .inl (k 0, 600, .inl f22))]) [0, 1, 2, 3, 4, 5, 6, 7] rfl
      have hDc := hD.sub (ws' := [(mo, .inr (12, [.int 0, .ref m1, .ref m2, .ref m3, .ref m4, .ref m5, .int 0, .int 0, .int 0, .int 0, .int 0, .long 0, .int 0, .int 0, .int 0, .int (-1), .ref m16, .ref m17, .ref m18, .ref m19, .ref m20, .ref m21, .ref m22, .ref m23, .int 0, .ref m25, .ref m26, .ref m27, .ref m28, .ref m29, .int 0, .ref m31, .ref m32, .ref m33, .int 0, .int 0, .int 0, .ref m37, .ref m38, .ref m39, .ref m40, .long 0])), (m16, .inl (k 0, 5, .inl f16)), (m17, .inl (k 0, 30, .inl f17)), (m18, .inl (k 0, 250, .inl f18)), (m19, .inl (k 0, 40, .inl f19)), (m20, .inl (k 0, 120, .inl f20)), (m21, .inl (k 0, 20, .inl f21)), (m22, .inl (k 0, 600, .inl f22))]) [0, 1, 2, 3, 4, 5, 6, 7] (by decide) rfl
      have hFc := va_free (wc := [(mo, .inr (12, [.int 0, .ref m1, .ref m2, .ref m3, .ref m4, .ref m5, .int 0, .int 0, .int 0, .int 0, .int 0, .long 0, .int 0, .int 0, .int 0, .int (-1), .ref m16, .ref m17, .ref m18, .ref m19, .ref m20, .ref m21, .ref m22, .ref m23, .int 0, .ref m25, .ref m26, .ref m27, .ref m28, .ref m29, .int 0, .ref m31, .ref m32, .ref m33, .int 0, .int 0, .int 0, .ref m37, .ref m38, .ref m39, .ref m40, .long 0])), (m16, .inl (k 0, 5, .inl f16)), (m17, .inl (k 0, 30, .inl f17)), (m18, .inl (k 0, 250, .inl f18)), (m19, .inl (k 0, 40, .inl f19)), (m20, .inl (k 0, 120, .inl f20)), (m21, .inl (k 0, 20, .inl f21)), (m22, .inl (k 0, 600, .inl f22))]) hD hS hA [0, 1, 2, 3, 4, 5, 6, 7] rfl
      refine va_callv (va_runV (C := RX12) (As := [.int 0, .int 2]) (rest := []) ⟨hx, hb, hml, hown, hts⟩ (c_X12_copyTown_0_2 l D k mo m1 m2 m3 m4 m5 m16 m17 m18 m19 m20 m21 m22 m23 m25 m26 m27 m28 m29 m31 m32 m33 m37 m38 m39 m40 f16 f17 f18 f19 f20 f21 f22 H.size) (cwV 2 hts (gV tw_7_87 tw_7_89 tw_p_57 tw_1_13 tw_7_90) rfl rfl rfl hdV_X12_copyTown ⟨Nat.le_of_ble_eq_true rfl, Nat.le_of_ble_eq_true rfl⟩) (cz_V hK hPc hDc hN (ci := 12) (q0 := 0) rfl rfl [.int 0, .int 2]) rfl rfl hl.1 rfl (lv_room (Nat.le_of_ble_eq_true rfl)) dX12_image_25 ⟨Nat.le_of_ble_eq_true rfl, Nat.le_of_ble_eq_true rfl⟩) hS (fun q _ h => hFc q h) hFc (fun uZ tZ H1 locs ht hvm hw hB hz1 hk1 hS => ?_)
      obtain ⟨o_16, o_17, o_18, o_19, o_20, o_21, o_22⟩ := uZ
      obtain ⟨hP1, hK1, hD1⟩ := hB
      rw [ht] at hP1
      obtain ⟨hP, hD⟩ := va_join (wr := [(m23, .inl (k 3, 3, .inl fk))]) (w1 := [(mo, .inr (12, [.int 0, .ref m1, .ref m2, .ref m3, .ref m4, .ref m5, .int 0, .int 0, .int 0, .int 0, .int 0, .long 0, .int 0, .int 0, .int 0, .int (-1), .ref m16, .ref m17, .ref m18, .ref m19, .ref m20, .ref m21, .ref m22, .ref m23, .int 0, .ref m25, .ref m26, .ref m27, .ref m28, .ref m29, .int 0, .ref m31, .ref m32, .ref m33, .int 0, .int 0, .int 0, .ref m37, .ref m38, .ref m39, .ref m40, .long 0])), (m16, .inl (k 0, 5, .inl o_16)), (m17, .inl (k 0, 30, .inl o_17)), (m18, .inl (k 0, 250, .inl o_18)), (m19, .inl (k 0, 40, .inl o_19)), (m20, .inl (k 0, 120, .inl o_20)), (m21, .inl (k 0, 20, .inl o_21)), (m22, .inl (k 0, 600, .inl o_22))]) hP hD [0, 1, 2, 3, 4, 5, 6, 7] [8] rfl rfl (by decide) (by decide) hk1 hFc hP1 hD1
      clear hK1 hP1 hD1 hPc hDc hFc
      clear hk1 hz1 ht hvm
      have hP : va_P D vwCl [(m23, .inl (k 3, 3, .inl fk)), (mo, .inr (12, [.int 0, .ref m1, .ref m2, .ref m3, .ref m4, .ref m5, .int 0, .int 0, .int 0, .int 0, .int 0, .long 0, .int 0, .int 0, .int 0, .int (-1), .ref m16, .ref m17, .ref m18, .ref m19, .ref m20, .ref m21, .ref m22, .ref m23, .int 0, .ref m25, .ref m26, .ref m27, .ref m28, .ref m29, .int 0, .ref m31, .ref m32, .ref m33, .int 0, .int 0, .int 0, .ref m37, .ref m38, .ref m39, .ref m40, .long 0])), (m16, .inl (k 0, 5, .inl o_16)), (m17, .inl (k 0, 30, .inl o_17)), (m18, .inl (k 0, 250, .inl o_18)), (m19, .inl (k 0, 40, .inl o_19)), (m20, .inl (k 0, 120, .inl o_20)), (m21, .inl (k 0, 20, .inl o_21)), (m22, .inl (k 0, 600, .inl o_22))] H1 := hP
      have hD : va_D A [(m23, .inl (k 3, 3, .inl fk)), (mo, .inr (12, [.int 0, .ref m1, .ref m2, .ref m3, .ref m4, .ref m5, .int 0, .int 0, .int 0, .int 0, .int 0, .long 0, .int 0, .int 0, .int 0, .int (-1), .ref m16, .ref m17, .ref m18, .ref m19, .ref m20, .ref m21, .ref m22, .ref m23, .int 0, .ref m25, .ref m26, .ref m27, .ref m28, .ref m29, .int 0, .ref m31, .ref m32, .ref m33, .int 0, .int 0, .int 0, .ref m37, .ref m38, .ref m39, .ref m40, .long 0])), (m16, .inl (k 0, 5, .inl o_16)), (m17, .inl (k 0, 30, .inl o_17)), (m18, .inl (k 0, 250, .inl o_18)), (m19, .inl (k 0, 40, .inl o_19)), (m20, .inl (k 0, 120, .inl o_20)), (m21, .inl (k 0, 20, .inl o_21)), (m22, .inl (k 0, 600, .inl o_22))] := hD
      generalize H1 = H at hP hS ⊢
      have hw_23 : (∀ j : Nat, f16 j = (0 : Int32)) → ∀ j : Nat, o_16 j = (0 : Int32) := hw
      clear hw
      refine lv_aload_n hx hb dX12_image_28 rfl (lv_at hl 0 rfl) ?_
      refine va_get (D := D) (ci := 12) (v := .ref m23) (C := RX12) (T := TX12) (N := 42) hx hb hts iT_X12 hown hK hP 1 rfl rfl 23 (by decide) (hts _ tw_6_76) (fun _ h9 => h9) rfl dX12_image_29 ?_
      refine lv_iload_n hx hb dX12_image_32 rfl (lv_at hl 1 rfl) ?_
      refine lv_iconst (v := 1) hx hb dX12_image_33 (by decide) ?_
      refine va_zast hx hb hK hP hD hS 0 3 rfl rfl (z_in (by decide) (by decide)) dX12_image_34 (fun H locs hP hD hS => ?_)
      have hP : va_P D vwCl [(m23, .inl (k 3, 3, .inl (upd fk 1 (vp_nar .boolean 1)))), (mo, .inr (12, [.int 0, .ref m1, .ref m2, .ref m3, .ref m4, .ref m5, .int 0, .int 0, .int 0, .int 0, .int 0, .long 0, .int 0, .int 0, .int 0, .int (-1), .ref m16, .ref m17, .ref m18, .ref m19, .ref m20, .ref m21, .ref m22, .ref m23, .int 0, .ref m25, .ref m26, .ref m27, .ref m28, .ref m29, .int 0, .ref m31, .ref m32, .ref m33, .int 0, .int 0, .int 0, .ref m37, .ref m38, .ref m39, .ref m40, .long 0])), (m16, .inl (k 0, 5, .inl o_16)), (m17, .inl (k 0, 30, .inl o_17)), (m18, .inl (k 0, 250, .inl o_18)), (m19, .inl (k 0, 40, .inl o_19)), (m20, .inl (k 0, 120, .inl o_20)), (m21, .inl (k 0, 20, .inl o_21)), (m22, .inl (k 0, 600, .inl o_22))] H := hP
      have hD : va_D A [(m23, .inl (k 3, 3, .inl (upd fk 1 (vp_nar .boolean 1)))), (mo, .inr (12, [.int 0, .ref m1, .ref m2, .ref m3, .ref m4, .ref m5, .int 0, .int 0, .int 0, .int 0, .int 0, .long 0, .int 0, .int 0, .int 0, .int (-1), .ref m16, .ref m17, .ref m18, .ref m19, .ref m20, .ref m21, .ref m22, .ref m23, .int 0, .ref m25, .ref m26, .ref m27, .ref m28, .ref m29, .int 0, .ref m31, .ref m32, .ref m33, .int 0, .int 0, .int 0, .ref m37, .ref m38, .ref m39, .ref m40, .long 0])), (m16, .inl (k 0, 5, .inl o_16)), (m17, .inl (k 0, 30, .inl o_17)), (m18, .inl (k 0, 250, .inl o_18)), (m19, .inl (k 0, 40, .inl o_19)), (m20, .inl (k 0, 120, .inl o_20)), (m21, .inl (k 0, 20, .inl o_21)), (m22, .inl (k 0, 600, .inl o_22))] := hD
      refine lv_iconst (v := 0) hx hb dX12_image_35 (by decide) ?_
      have hP9 := hP.sub (ws' := []) [] rfl
      have hD9 := hD.sub (ws' := []) [] (by decide) rfl
      exact W.iret (v := 0) hx hb hr (fun tZ ht hW => ⟨⟨0, (), rfl, (show 0 = sp_image 1 from by unfold sp_image; first | (rw [if_neg (by omega)]) | (rw [if_pos (by omega)])), by rw [ht]; exact hP9, va_K.moved hW.alike hK, hD9⟩, hS.F ht⟩) hS.2.2 dX12_image_36
    · skip
      refine lv_aload_n hx hb dX12_image_20 rfl (lv_at hl 0 rfl) ?_
      refine lv_iconst (v := 0) hx hb dX12_image_21 (by decide) ?_
      refine lv_iconst (v := 1) hx hb dX12_image_22 (by decide) ?_
      refine lv_iload_n hx hb dX12_image_23 rfl (lv_at hl 1 rfl) ?_
      refine lv_iadd hx hb dX12_image_24 ?_
      refine lv_topi (fun x_24 ex_24 => ?_)
      obtain rfl : x_24 = 3 := ex_24.trans (by decide)
      have hPc := hP.sub (ws' := [(mo, .inr (12, [.int 0, .ref m1, .ref m2, .ref m3, .ref m4, .ref m5, .int 0, .int 0, .int 0, .int 0, .int 0, .long 0, .int 0, .int 0, .int 0, .int (-1), .ref m16, .ref m17, .ref m18, .ref m19, .ref m20, .ref m21, .ref m22, .ref m23, .int 0, .ref m25, .ref m26, .ref m27, .ref m28, .ref m29, .int 0, .ref m31, .ref m32, .ref m33, .int 0, .int 0, .int 0, .ref m37, .ref m38, .ref m39, .ref m40, .long 0])), (m16, .inl (k 0, 5, .inl f16)), (m17, .inl (k 0, 30, .inl f17)), (m18, .inl (k 0, 250, .inl f18)), (m19, .inl (k 0, 40, .inl f19)), (m20, .inl (k 0, 120, .inl f20)), (m21, .inl (k 0, 20, .inl f21)), (m22, .inl (k 0, 600, .inl f22))]) [0, 1, 2, 3, 4, 5, 6, 7] rfl
      have hDc := hD.sub (ws' := [(mo, .inr (12, [.int 0, .ref m1, .ref m2, .ref m3, .ref m4, .ref m5, .int 0, .int 0, .int 0, .int 0, .int 0, .long 0, .int 0, .int 0, .int 0, .int (-1), .ref m16, .ref m17, .ref m18, .ref m19, .ref m20, .ref m21, .ref m22, .ref m23, .int 0, .ref m25, .ref m26, .ref m27, .ref m28, .ref m29, .int 0, .ref m31, .ref m32, .ref m33, .int 0, .int 0, .int 0, .ref m37, .ref m38, .ref m39, .ref m40, .long 0])), (m16, .inl (k 0, 5, .inl f16)), (m17, .inl (k 0, 30, .inl f17)), (m18, .inl (k 0, 250, .inl f18)), (m19, .inl (k 0, 40, .inl f19)), (m20, .inl (k 0, 120, .inl f20)), (m21, .inl (k 0, 20, .inl f21)), (m22, .inl (k 0, 600, .inl f22))]) [0, 1, 2, 3, 4, 5, 6, 7] (by decide) rfl
      have hFc := va_free (wc := [(mo, .inr (12, [.int 0, .ref m1, .ref m2, .ref m3, .ref m4, .ref m5, .int 0, .int 0, .int 0, .int 0, .int 0, .long 0, .int 0, .int 0, .int 0, .int (-1), .ref m16, .ref m17, .ref m18, .ref m19, .ref m20, .ref m21, .ref m22, .ref m23, .int 0, .ref m25, .ref m26, .ref m27, .ref m28, .ref m29, .int 0, .ref m31, .ref m32, .ref m33, .int 0, .int 0, .int 0, .ref m37, .ref m38, .ref m39, .ref m40, .long 0])), (m16, .inl (k 0, 5, .inl f16)), (m17, .inl (k 0, 30, .inl f17)), (m18, .inl (k 0, 250, .inl f18)), (m19, .inl (k 0, 40, .inl f19)), (m20, .inl (k 0, 120, .inl f20)), (m21, .inl (k 0, 20, .inl f21)), (m22, .inl (k 0, 600, .inl f22))]) hD hS hA [0, 1, 2, 3, 4, 5, 6, 7] rfl
      refine va_callv (va_runV (C := RX12) (As := [.int 0, .int 3]) (rest := []) ⟨hx, hb, hml, hown, hts⟩ (c_X12_copyTown_0_3 l D k mo m1 m2 m3 m4 m5 m16 m17 m18 m19 m20 m21 m22 m23 m25 m26 m27 m28 m29 m31 m32 m33 m37 m38 m39 m40 f16 f17 f18 f19 f20 f21 f22 H.size) (cwV 2 hts (gV tw_7_87 tw_7_89 tw_p_57 tw_1_13 tw_7_90) rfl rfl rfl hdV_X12_copyTown ⟨Nat.le_of_ble_eq_true rfl, Nat.le_of_ble_eq_true rfl⟩) (cz_V hK hPc hDc hN (ci := 12) (q0 := 0) rfl rfl [.int 0, .int 3]) rfl rfl hl.1 rfl (lv_room (Nat.le_of_ble_eq_true rfl)) dX12_image_25 ⟨Nat.le_of_ble_eq_true rfl, Nat.le_of_ble_eq_true rfl⟩) hS (fun q _ h => hFc q h) hFc (fun uZ tZ H1 locs ht hvm hw hB hz1 hk1 hS => ?_)
      obtain ⟨o_26, o_27, o_28, o_29, o_30, o_31, o_32⟩ := uZ
      obtain ⟨hP1, hK1, hD1⟩ := hB
      rw [ht] at hP1
      obtain ⟨hP, hD⟩ := va_join (wr := [(m23, .inl (k 3, 3, .inl fk))]) (w1 := [(mo, .inr (12, [.int 0, .ref m1, .ref m2, .ref m3, .ref m4, .ref m5, .int 0, .int 0, .int 0, .int 0, .int 0, .long 0, .int 0, .int 0, .int 0, .int (-1), .ref m16, .ref m17, .ref m18, .ref m19, .ref m20, .ref m21, .ref m22, .ref m23, .int 0, .ref m25, .ref m26, .ref m27, .ref m28, .ref m29, .int 0, .ref m31, .ref m32, .ref m33, .int 0, .int 0, .int 0, .ref m37, .ref m38, .ref m39, .ref m40, .long 0])), (m16, .inl (k 0, 5, .inl o_26)), (m17, .inl (k 0, 30, .inl o_27)), (m18, .inl (k 0, 250, .inl o_28)), (m19, .inl (k 0, 40, .inl o_29)), (m20, .inl (k 0, 120, .inl o_30)), (m21, .inl (k 0, 20, .inl o_31)), (m22, .inl (k 0, 600, .inl o_32))]) hP hD [0, 1, 2, 3, 4, 5, 6, 7] [8] rfl rfl (by decide) (by decide) hk1 hFc hP1 hD1
      clear hK1 hP1 hD1 hPc hDc hFc
      clear hk1 hz1 ht hvm
      have hP : va_P D vwCl [(m23, .inl (k 3, 3, .inl fk)), (mo, .inr (12, [.int 0, .ref m1, .ref m2, .ref m3, .ref m4, .ref m5, .int 0, .int 0, .int 0, .int 0, .int 0, .long 0, .int 0, .int 0, .int 0, .int (-1), .ref m16, .ref m17, .ref m18, .ref m19, .ref m20, .ref m21, .ref m22, .ref m23, .int 0, .ref m25, .ref m26, .ref m27, .ref m28, .ref m29, .int 0, .ref m31, .ref m32, .ref m33, .int 0, .int 0, .int 0, .ref m37, .ref m38, .ref m39, .ref m40, .long 0])), (m16, .inl (k 0, 5, .inl o_26)), (m17, .inl (k 0, 30, .inl o_27)), (m18, .inl (k 0, 250, .inl o_28)), (m19, .inl (k 0, 40, .inl o_29)), (m20, .inl (k 0, 120, .inl o_30)), (m21, .inl (k 0, 20, .inl o_31)), (m22, .inl (k 0, 600, .inl o_32))] H1 := hP
      have hD : va_D A [(m23, .inl (k 3, 3, .inl fk)), (mo, .inr (12, [.int 0, .ref m1, .ref m2, .ref m3, .ref m4, .ref m5, .int 0, .int 0, .int 0, .int 0, .int 0, .long 0, .int 0, .int 0, .int 0, .int (-1), .ref m16, .ref m17, .ref m18, .ref m19, .ref m20, .ref m21, .ref m22, .ref m23, .int 0, .ref m25, .ref m26, .ref m27, .ref m28, .ref m29, .int 0, .ref m31, .ref m32, .ref m33, .int 0, .int 0, .int 0, .ref m37, .ref m38, .ref m39, .ref m40, .long 0])), (m16, .inl (k 0, 5, .inl o_26)), (m17, .inl (k 0, 30, .inl o_27)), (m18, .inl (k 0, 250, .inl o_28)), (m19, .inl (k 0, 40, .inl o_29)), (m20, .inl (k 0, 120, .inl o_30)), (m21, .inl (k 0, 20, .inl o_31)), (m22, .inl (k 0, 600, .inl o_32))] := hD
      generalize H1 = H at hP hS ⊢
      have hw_33 : (∀ j : Nat, f16 j = (0 : Int32)) → ∀ j : Nat, o_26 j = (0 : Int32) := hw
      clear hw
      refine lv_aload_n hx hb dX12_image_28 rfl (lv_at hl 0 rfl) ?_
      refine va_get (D := D) (ci := 12) (v := .ref m23) (C := RX12) (T := TX12) (N := 42) hx hb hts iT_X12 hown hK hP 1 rfl rfl 23 (by decide) (hts _ tw_6_76) (fun _ h9 => h9) rfl dX12_image_29 ?_
      refine lv_iload_n hx hb dX12_image_32 rfl (lv_at hl 1 rfl) ?_
      refine lv_iconst (v := 1) hx hb dX12_image_33 (by decide) ?_
      refine va_zast hx hb hK hP hD hS 0 3 rfl rfl (z_in (by decide) (by decide)) dX12_image_34 (fun H locs hP hD hS => ?_)
      have hP : va_P D vwCl [(m23, .inl (k 3, 3, .inl (upd fk 2 (vp_nar .boolean 1)))), (mo, .inr (12, [.int 0, .ref m1, .ref m2, .ref m3, .ref m4, .ref m5, .int 0, .int 0, .int 0, .int 0, .int 0, .long 0, .int 0, .int 0, .int 0, .int (-1), .ref m16, .ref m17, .ref m18, .ref m19, .ref m20, .ref m21, .ref m22, .ref m23, .int 0, .ref m25, .ref m26, .ref m27, .ref m28, .ref m29, .int 0, .ref m31, .ref m32, .ref m33, .int 0, .int 0, .int 0, .ref m37, .ref m38, .ref m39, .ref m40, .long 0])), (m16, .inl (k 0, 5, .inl o_26)), (m17, .inl (k 0, 30, .inl o_27)), (m18, .inl (k 0, 250, .inl o_28)), (m19, .inl (k 0, 40, .inl o_29)), (m20, .inl (k 0, 120, .inl o_30)), (m21, .inl (k 0, 20, .inl o_31)), (m22, .inl (k 0, 600, .inl o_32))] H := hP
      have hD : va_D A [(m23, .inl (k 3, 3, .inl (upd fk 2 (vp_nar .boolean 1)))), (mo, .inr (12, [.int 0, .ref m1, .ref m2, .ref m3, .ref m4, .ref m5, .int 0, .int 0, .int 0, .int 0, .int 0, .long 0, .int 0, .int 0, .int 0, .int (-1), .ref m16, .ref m17, .ref m18, .ref m19, .ref m20, .ref m21, .ref m22, .ref m23, .int 0, .ref m25, .ref m26, .ref m27, .ref m28, .ref m29, .int 0, .ref m31, .ref m32, .ref m33, .int 0, .int 0, .int 0, .ref m37, .ref m38, .ref m39, .ref m40, .long 0])), (m16, .inl (k 0, 5, .inl o_26)), (m17, .inl (k 0, 30, .inl o_27)), (m18, .inl (k 0, 250, .inl o_28)), (m19, .inl (k 0, 40, .inl o_29)), (m20, .inl (k 0, 120, .inl o_30)), (m21, .inl (k 0, 20, .inl o_31)), (m22, .inl (k 0, 600, .inl o_32))] := hD
      refine lv_iconst (v := 0) hx hb dX12_image_35 (by decide) ?_
      have hP9 := hP.sub (ws' := []) [] rfl
      have hD9 := hD.sub (ws' := []) [] (by decide) rfl
      exact W.iret (v := 0) hx hb hr (fun tZ ht hW => ⟨⟨0, (), rfl, (show 0 = sp_image 2 from by unfold sp_image; first | (rw [if_neg (by omega)]) | (rw [if_pos (by omega)])), by rw [ht]; exact hP9, va_K.moved hW.alike hK, hD9⟩, hS.F ht⟩) hS.2.2 dX12_image_36
  · skip
    have zh_3 : r_1.toInt = 0 := z_eq h_3
    refine lv_bipush (v := (-2)) hx hb dX12_image_17 (by decide) ?_
    have hP9 := hP.sub (ws' := []) [] rfl
    have hD9 := hD.sub (ws' := []) [] (by decide) rfl
    exact W.iret (v := (-2)) hx hb hr (fun tZ ht hW => ⟨⟨(-2), (), rfl, (show (-2) = sp_image p0 from by unfold sp_image; first | (rw [if_neg (by omega)]) | (rw [if_pos (by omega)])), by rw [ht]; exact hP9, va_K.moved hW.alike hK, hD9⟩, hS.F ht⟩) hS.2.2 dX12_image_19
set_option maxHeartbeats 4000000 in
set_option maxRecDepth 100000 in
theorem c_X12_back (l : Launch) (D : va_G) (k : Nat → ClassId) (mo : Nat) (m1 : Nat) (m2 : Nat) (m3 : Nat) (m4 : Nat) (m5 : Nat) (m16 : Nat) (m17 : Nat) (m18 : Nat) (m19 : Nat) (m20 : Nat) (m21 : Nat) (m22 : Nat) (m23 : Nat) (m25 : Nat) (m26 : Nat) (m27 : Nat) (m28 : Nat) (m29 : Nat) (m31 : Nat) (m32 : Nat) (m33 : Nat) (m37 : Nat) (m38 : Nat) (m39 : Nat) (m40 : Nat) (p0 : Int32) (sz : Nat) : Met l yX12_back (ww yX12_back cX12_back 2 (some .int)) ({ frames := 1, cells := 0, slots := 0, locals := 25 }) (Pre0 D k [(mo, .inr (12, [.int 0, .ref m1, .ref m2, .ref m3, .ref m4, .ref m5, .int 0, .int 0, .int 0, .int 0, .int 0, .long 0, .int 0, .int 0, .int 0, .int (-1), .ref m16, .ref m17, .ref m18, .ref m19, .ref m20, .ref m21, .ref m22, .ref m23, .int 0, .ref m25, .ref m26, .ref m27, .ref m28, .ref m29, .int 0, .ref m31, .ref m32, .ref m33, .int 0, .int 0, .int 0, .ref m37, .ref m38, .ref m39, .ref m40, .long 0])), (m23, .inl (k 3, 3, .inl (fun _ => 0)))] sz [.ref mo, .int p0]) (va_Qi (fun (r : Int32) (_ : Unit) => r = sp_back p0) (fun (_ : Unit) tZ => Bw D k (va_A [(mo, .inr (12, [.int 0, .ref m1, .ref m2, .ref m3, .ref m4, .ref m5, .int 0, .int 0, .int 0, .int 0, .int 0, .long 0, .int 0, .int 0, .int 0, .int (-1), .ref m16, .ref m17, .ref m18, .ref m19, .ref m20, .ref m21, .ref m22, .ref m23, .int 0, .ref m25, .ref m26, .ref m27, .ref m28, .ref m29, .int 0, .ref m31, .ref m32, .ref m33, .int 0, .int 0, .int 0, .ref m37, .ref m38, .ref m39, .ref m40, .long 0])), (m23, .inl (k 3, 3, .inl (fun _ => 0)))] sz) [(mo, .inr (12, [.int 0, .ref m1, .ref m2, .ref m3, .ref m4, .ref m5, .int 0, .int 0, .int 0, .int 0, .int 0, .long 0, .int 0, .int 0, .int 0, .int (-1), .ref m16, .ref m17, .ref m18, .ref m19, .ref m20, .ref m21, .ref m22, .ref m23, .int 0, .ref m25, .ref m26, .ref m27, .ref m28, .ref m29, .int 0, .ref m31, .ref m32, .ref m33, .int 0, .int 0, .int 0, .ref m37, .ref m38, .ref m39, .ref m40, .long 0])), (m23, .inl (k 3, 3, .inl (fun _ => 0)))] tZ) (va_A [(mo, .inr (12, [.int 0, .ref m1, .ref m2, .ref m3, .ref m4, .ref m5, .int 0, .int 0, .int 0, .int 0, .int 0, .long 0, .int 0, .int 0, .int 0, .int (-1), .ref m16, .ref m17, .ref m18, .ref m19, .ref m20, .ref m21, .ref m22, .ref m23, .int 0, .ref m25, .ref m26, .ref m27, .ref m28, .ref m29, .int 0, .ref m31, .ref m32, .ref m33, .int 0, .int 0, .int 0, .ref m37, .ref m38, .ref m39, .ref m40, .long 0])), (m23, .inl (k 3, 3, .inl (fun _ => 0)))] sz)) 0 0 (va_A [(mo, .inr (12, [.int 0, .ref m1, .ref m2, .ref m3, .ref m4, .ref m5, .int 0, .int 0, .int 0, .int 0, .int 0, .long 0, .int 0, .int 0, .int 0, .int (-1), .ref m16, .ref m17, .ref m18, .ref m19, .ref m20, .ref m21, .ref m22, .ref m23, .int 0, .ref m25, .ref m26, .ref m27, .ref m28, .ref m29, .int 0, .ref m31, .ref m32, .ref m33, .int 0, .int 0, .int 0, .ref m37, .ref m38, .ref m39, .ref m40, .long 0])), (m23, .inl (k 3, 3, .inl (fun _ => 0)))] sz) := by
  refine Met.ofW (cc := cX12_back) (maxL := 2) (ret := (some .int)) (by decide +kernel) rfl ?_
  intro p e s m args below meth c s₁ B hml hv
  obtain ⟨rfl, hsz, hP, hK, hD0, hN⟩ := hv
  have hx := B.exec
  have hb := B.bytes
  have hr := B.returns
  have hts : ∀ w ∈ TT, w.before _ s = true := fun w h => atoms_spec (ws := ww yX12_back cX12_back 2 (some .int)) B.pre w (List.mem_cons_of_mem _ h)
  have hown : s.vm.findClass RX12 = some m.cls := findClass_of_methodNamed B.named
  have hlocks := B.notSynchronized
  subst hsz
  have hD := hD0.self (sz := s.heap.size)
  generalize hAe : va_A [(mo, .inr (12, [.int 0, .ref m1, .ref m2, .ref m3, .ref m4, .ref m5, .int 0, .int 0, .int 0, .int 0, .int 0, .long 0, .int 0, .int 0, .int 0, .int (-1), .ref m16, .ref m17, .ref m18, .ref m19, .ref m20, .ref m21, .ref m22, .ref m23, .int 0, .ref m25, .ref m26, .ref m27, .ref m28, .ref m29, .int 0, .ref m31, .ref m32, .ref m33, .int 0, .int 0, .int 0, .ref m37, .ref m38, .ref m39, .ref m40, .long 0])), (m23, .inl (k 3, 3, .inl (fun _ => 0)))] s.heap.size = A at hD ⊢
  have hA : ∀ q : Nat, s.heap.size ≤ q → A q := fun q h => by rw [← hAe]; exact Or.inr h
  have hS : va_S A s.heap s.heap [] := va_S.rf
  have hl := lv_entry ([.ref mo, .int p0]) (n := 2) (Nat.le_of_ble_eq_true rfl)
  rw [lg_entry_eq]
  generalize (lg_sl ([.ref mo, .int p0]) ++ List.replicate (2 - (lg_sl ([.ref mo, .int p0])).length) Slot.unset).toArray = ls at hl ⊢
  have hl : lv_has ls 2 [(0, .ref mo), (1, .int p0)] := hl
  refine lv_aload_n hx hb dX12_back_0 rfl (lv_at hl 0 rfl) ?_
  refine lv_iconst (v := 0) hx hb dX12_back_1 (by decide) ?_
  refine va_put (D := D) (ci := 12) (v := .int 0) (ty := tyX12 0) (C := RX12) (T := TX12) (N := 42) hx hb hts iT_X12 tyX12 tyX12_ok nmX12 hown hK hP hD hS 0 rfl rfl 0 (by decide) (hts _ tw_6_53) (fun _ h9 => h9) rfl (tyX12_ok 0 (by decide)) rfl rfl (Nat.le_of_ble_eq_true rfl) dX12_back_2 (fun H locs hP hD hS => ?_)
  have hP : va_P D vwCl [(mo, .inr (12, [.int 0, .ref m1, .ref m2, .ref m3, .ref m4, .ref m5, .int 0, .int 0, .int 0, .int 0, .int 0, .long 0, .int 0, .int 0, .int 0, .int (-1), .ref m16, .ref m17, .ref m18, .ref m19, .ref m20, .ref m21, .ref m22, .ref m23, .int 0, .ref m25, .ref m26, .ref m27, .ref m28, .ref m29, .int 0, .ref m31, .ref m32, .ref m33, .int 0, .int 0, .int 0, .ref m37, .ref m38, .ref m39, .ref m40, .long 0])), (m23, .inl (k 3, 3, .inl (fun _ => 0)))] H := hP
  have hD : va_D A [(mo, .inr (12, [.int 0, .ref m1, .ref m2, .ref m3, .ref m4, .ref m5, .int 0, .int 0, .int 0, .int 0, .int 0, .long 0, .int 0, .int 0, .int 0, .int (-1), .ref m16, .ref m17, .ref m18, .ref m19, .ref m20, .ref m21, .ref m22, .ref m23, .int 0, .ref m25, .ref m26, .ref m27, .ref m28, .ref m29, .int 0, .ref m31, .ref m32, .ref m33, .int 0, .int 0, .int 0, .ref m37, .ref m38, .ref m39, .ref m40, .long 0])), (m23, .inl (k 3, 3, .inl (fun _ => 0)))] := hD
  refine lv_iload_n hx hb dX12_back_5 rfl (lv_at hl 1 rfl) ?_
  refine lv_i2l (v := p0.toInt64) hx hb dX12_back_6 rfl ?_
  refine lv_lconst (v := 0) hx hb dX12_back_7 (by decide) ?_
  refine lv_ldc2 (v := 2) hx hb hown (hts _ tw_9_10) dX12_back_8 ?_
  have hPc := hP.sub (ws' := []) [] rfl
  have hDc := hD.sub (ws' := []) [] (by decide) rfl
  have hFc := va_free (wc := []) hD hS hA [] rfl
  refine va_calli (va_runS (As := [.long p0.toInt64, .long 0, .long 2]) (rest := []) ⟨hx, hb, hml, hown, hts⟩ (c_X12_in l D k p0.toInt64 0 2 H.size) (va_cwS 3 hts (gS tw_6_188 tw_6_189 tw_1_13 tw_6_190) rfl rfl rfl hdS_X12_in ⟨Nat.le_of_ble_eq_true rfl, Nat.le_of_ble_eq_true rfl⟩) (cz_S hK hPc hDc hN [.long p0.toInt64, .long 0, .long 2]) rfl rfl hl.1 rfl (lv_room (Nat.le_of_ble_eq_true rfl)) dX12_back_11 ⟨Nat.le_of_ble_eq_true rfl, Nat.le_of_ble_eq_true rfl⟩) hS (fun q _ h => hFc q h) hFc (fun r_1 uZ tZ H1 locs ht hvm hw hB hz1 hk1 hS => ?_)
  obtain ⟨hP1, hK1, hD1⟩ := hB
  rw [ht] at hP1
  obtain ⟨hP, hD⟩ := va_join (wr := [(mo, .inr (12, [.int 0, .ref m1, .ref m2, .ref m3, .ref m4, .ref m5, .int 0, .int 0, .int 0, .int 0, .int 0, .long 0, .int 0, .int 0, .int 0, .int (-1), .ref m16, .ref m17, .ref m18, .ref m19, .ref m20, .ref m21, .ref m22, .ref m23, .int 0, .ref m25, .ref m26, .ref m27, .ref m28, .ref m29, .int 0, .ref m31, .ref m32, .ref m33, .int 0, .int 0, .int 0, .ref m37, .ref m38, .ref m39, .ref m40, .long 0])), (m23, .inl (k 3, 3, .inl (fun _ => 0)))]) (w1 := []) hP hD [] [0, 1] rfl rfl (by decide) (by decide) hk1 hFc hP1 hD1
  clear hK1 hP1 hD1 hPc hDc hFc
  clear hk1 hz1 ht hvm
  have hP : va_P D vwCl [(mo, .inr (12, [.int 0, .ref m1, .ref m2, .ref m3, .ref m4, .ref m5, .int 0, .int 0, .int 0, .int 0, .int 0, .long 0, .int 0, .int 0, .int 0, .int (-1), .ref m16, .ref m17, .ref m18, .ref m19, .ref m20, .ref m21, .ref m22, .ref m23, .int 0, .ref m25, .ref m26, .ref m27, .ref m28, .ref m29, .int 0, .ref m31, .ref m32, .ref m33, .int 0, .int 0, .int 0, .ref m37, .ref m38, .ref m39, .ref m40, .long 0])), (m23, .inl (k 3, 3, .inl (fun _ => 0)))] H1 := hP
  have hD : va_D A [(mo, .inr (12, [.int 0, .ref m1, .ref m2, .ref m3, .ref m4, .ref m5, .int 0, .int 0, .int 0, .int 0, .int 0, .long 0, .int 0, .int 0, .int 0, .int (-1), .ref m16, .ref m17, .ref m18, .ref m19, .ref m20, .ref m21, .ref m22, .ref m23, .int 0, .ref m25, .ref m26, .ref m27, .ref m28, .ref m29, .int 0, .ref m31, .ref m32, .ref m33, .int 0, .int 0, .int 0, .ref m37, .ref m38, .ref m39, .ref m40, .long 0])), (m23, .inl (k 3, 3, .inl (fun _ => 0)))] := hD
  generalize H1 = H at hP hS ⊢
  have hw_2 : (r_1.toInt = 1 ∧ 0 ≤ p0.toInt64.toInt ∧ p0.toInt64.toInt ≤ 2) ∨ (r_1.toInt = 0 ∧ (p0.toInt64.toInt < 0 ∨ 2 < p0.toInt64.toInt)) := hw
  simp only [Int32.toInt_toInt64] at hw_2
  clear hw
  refine lv_if_ne (tgt := 20) hx hb dX12_back_14 (by decide) (fun h_3 => ?_) (fun h_3 => ?_)
  · skip
    have zh_3 : ¬ r_1.toInt = 0 := z_ne h_3
    rcases z_c3 p0 (by omega) (by omega) with rfl | rfl | rfl
    · skip
      refine lv_aload_n hx hb dX12_back_20 rfl (lv_at hl 0 rfl) ?_
      refine va_get (D := D) (ci := 12) (v := .ref m23) (C := RX12) (T := TX12) (N := 42) hx hb hts iT_X12 hown hK hP 0 rfl rfl 23 (by decide) (hts _ tw_6_76) (fun _ h9 => h9) rfl dX12_back_21 ?_
      refine lv_iload_n hx hb dX12_back_24 rfl (lv_at hl 1 rfl) ?_
      refine va_zald hx hb hK hP 1 3 rfl rfl (z_in (by decide) (by decide)) dX12_back_25 ?_
      refine lv_topi (fun x_4 ex_4 => ?_)
      obtain rfl : x_4 = 0 := ex_4.trans rfl
      refine lv_if_ne (tgt := 32) hx hb dX12_back_26 (by decide) (fun c9 => absurd c9 (by decide)) (fun _ => ?_)
      refine lv_bipush (v := (-6)) hx hb dX12_back_29 (by decide) ?_
      have hP9 := hP.sub (ws' := [(mo, .inr (12, [.int 0, .ref m1, .ref m2, .ref m3, .ref m4, .ref m5, .int 0, .int 0, .int 0, .int 0, .int 0, .long 0, .int 0, .int 0, .int 0, .int (-1), .ref m16, .ref m17, .ref m18, .ref m19, .ref m20, .ref m21, .ref m22, .ref m23, .int 0, .ref m25, .ref m26, .ref m27, .ref m28, .ref m29, .int 0, .ref m31, .ref m32, .ref m33, .int 0, .int 0, .int 0, .ref m37, .ref m38, .ref m39, .ref m40, .long 0])), (m23, .inl (k 3, 3, .inl (fun _ => 0)))]) [0, 1] rfl
      have hD9 := hD.sub (ws' := [(mo, .inr (12, [.int 0, .ref m1, .ref m2, .ref m3, .ref m4, .ref m5, .int 0, .int 0, .int 0, .int 0, .int 0, .long 0, .int 0, .int 0, .int 0, .int (-1), .ref m16, .ref m17, .ref m18, .ref m19, .ref m20, .ref m21, .ref m22, .ref m23, .int 0, .ref m25, .ref m26, .ref m27, .ref m28, .ref m29, .int 0, .ref m31, .ref m32, .ref m33, .int 0, .int 0, .int 0, .ref m37, .ref m38, .ref m39, .ref m40, .long 0])), (m23, .inl (k 3, 3, .inl (fun _ => 0)))]) [0, 1] (by decide) rfl
      exact W.iret (v := (-6)) hx hb hr (fun tZ ht hW => ⟨⟨(-6), (), rfl, (show (-6) = sp_back 0 from by unfold sp_back; first | (rw [if_neg (by omega)]) | (rw [if_pos (by omega)])), by rw [ht]; exact hP9, va_K.moved hW.alike hK, hD9⟩, hS.F ht⟩) hS.2.2 dX12_back_31
    · skip
      refine lv_aload_n hx hb dX12_back_20 rfl (lv_at hl 0 rfl) ?_
      refine va_get (D := D) (ci := 12) (v := .ref m23) (C := RX12) (T := TX12) (N := 42) hx hb hts iT_X12 hown hK hP 0 rfl rfl 23 (by decide) (hts _ tw_6_76) (fun _ h9 => h9) rfl dX12_back_21 ?_
      refine lv_iload_n hx hb dX12_back_24 rfl (lv_at hl 1 rfl) ?_
      refine va_zald hx hb hK hP 1 3 rfl rfl (z_in (by decide) (by decide)) dX12_back_25 ?_
      refine lv_topi (fun x_5 ex_5 => ?_)
      obtain rfl : x_5 = 0 := ex_5.trans rfl
      refine lv_if_ne (tgt := 32) hx hb dX12_back_26 (by decide) (fun c9 => absurd c9 (by decide)) (fun _ => ?_)
      refine lv_bipush (v := (-6)) hx hb dX12_back_29 (by decide) ?_
      have hP9 := hP.sub (ws' := [(mo, .inr (12, [.int 0, .ref m1, .ref m2, .ref m3, .ref m4, .ref m5, .int 0, .int 0, .int 0, .int 0, .int 0, .long 0, .int 0, .int 0, .int 0, .int (-1), .ref m16, .ref m17, .ref m18, .ref m19, .ref m20, .ref m21, .ref m22, .ref m23, .int 0, .ref m25, .ref m26, .ref m27, .ref m28, .ref m29, .int 0, .ref m31, .ref m32, .ref m33, .int 0, .int 0, .int 0, .ref m37, .ref m38, .ref m39, .ref m40, .long 0])), (m23, .inl (k 3, 3, .inl (fun _ => 0)))]) [0, 1] rfl
      have hD9 := hD.sub (ws' := [(mo, .inr (12, [.int 0, .ref m1, .ref m2, .ref m3, .ref m4, .ref m5, .int 0, .int 0, .int 0, .int 0, .int 0, .long 0, .int 0, .int 0, .int 0, .int (-1), .ref m16, .ref m17, .ref m18, .ref m19, .ref m20, .ref m21, .ref m22, .ref m23, .int 0, .ref m25, .ref m26, .ref m27, .ref m28, .ref m29, .int 0, .ref m31, .ref m32, .ref m33, .int 0, .int 0, .int 0, .ref m37, .ref m38, .ref m39, .ref m40, .long 0])), (m23, .inl (k 3, 3, .inl (fun _ => 0)))]) [0, 1] (by decide) rfl
      exact W.iret (v := (-6)) hx hb hr (fun tZ ht hW => ⟨⟨(-6), (), rfl, (show (-6) = sp_back 1 from by unfold sp_back; first | (rw [if_neg (by omega)]) | (rw [if_pos (by omega)])), by rw [ht]; exact hP9, va_K.moved hW.alike hK, hD9⟩, hS.F ht⟩) hS.2.2 dX12_back_31
    · skip
      refine lv_aload_n hx hb dX12_back_20 rfl (lv_at hl 0 rfl) ?_
      refine va_get (D := D) (ci := 12) (v := .ref m23) (C := RX12) (T := TX12) (N := 42) hx hb hts iT_X12 hown hK hP 0 rfl rfl 23 (by decide) (hts _ tw_6_76) (fun _ h9 => h9) rfl dX12_back_21 ?_
      refine lv_iload_n hx hb dX12_back_24 rfl (lv_at hl 1 rfl) ?_
      refine va_zald hx hb hK hP 1 3 rfl rfl (z_in (by decide) (by decide)) dX12_back_25 ?_
      refine lv_topi (fun x_6 ex_6 => ?_)
      obtain rfl : x_6 = 0 := ex_6.trans rfl
      refine lv_if_ne (tgt := 32) hx hb dX12_back_26 (by decide) (fun c9 => absurd c9 (by decide)) (fun _ => ?_)
      refine lv_bipush (v := (-6)) hx hb dX12_back_29 (by decide) ?_
      have hP9 := hP.sub (ws' := [(mo, .inr (12, [.int 0, .ref m1, .ref m2, .ref m3, .ref m4, .ref m5, .int 0, .int 0, .int 0, .int 0, .int 0, .long 0, .int 0, .int 0, .int 0, .int (-1), .ref m16, .ref m17, .ref m18, .ref m19, .ref m20, .ref m21, .ref m22, .ref m23, .int 0, .ref m25, .ref m26, .ref m27, .ref m28, .ref m29, .int 0, .ref m31, .ref m32, .ref m33, .int 0, .int 0, .int 0, .ref m37, .ref m38, .ref m39, .ref m40, .long 0])), (m23, .inl (k 3, 3, .inl (fun _ => 0)))]) [0, 1] rfl
      have hD9 := hD.sub (ws' := [(mo, .inr (12, [.int 0, .ref m1, .ref m2, .ref m3, .ref m4, .ref m5, .int 0, .int 0, .int 0, .int 0, .int 0, .long 0, .int 0, .int 0, .int 0, .int (-1), .ref m16, .ref m17, .ref m18, .ref m19, .ref m20, .ref m21, .ref m22, .ref m23, .int 0, .ref m25, .ref m26, .ref m27, .ref m28, .ref m29, .int 0, .ref m31, .ref m32, .ref m33, .int 0, .int 0, .int 0, .ref m37, .ref m38, .ref m39, .ref m40, .long 0])), (m23, .inl (k 3, 3, .inl (fun _ => 0)))]) [0, 1] (by decide) rfl
      exact W.iret (v := (-6)) hx hb hr (fun tZ ht hW => ⟨⟨(-6), (), rfl, (show (-6) = sp_back 2 from by unfold sp_back; first | (rw [if_neg (by omega)]) | (rw [if_pos (by omega)])), by rw [ht]; exact hP9, va_K.moved hW.alike hK, hD9⟩, hS.F ht⟩) hS.2.2 dX12_back_31
  · skip
    have zh_3 : r_1.toInt = 0 := z_eq h_3
    refine lv_bipush (v := (-2)) hx hb dX12_back_17 (by decide) ?_
    have hP9 := hP.sub (ws' := [(mo, .inr (12, [.int 0, .ref m1, .ref m2, .ref m3, .ref m4, .ref m5, .int 0, .int 0, .int 0, .int 0, .int 0, .long 0, .int 0, .int 0, .int 0, .int (-1), .ref m16, .ref m17, .ref m18, .ref m19, .ref m20, .ref m21, .ref m22, .ref m23, .int 0, .ref m25, .ref m26, .ref m27, .ref m28, .ref m29, .int 0, .ref m31, .ref m32, .ref m33, .int 0, .int 0, .int 0, .ref m37, .ref m38, .ref m39, .ref m40, .long 0])), (m23, .inl (k 3, 3, .inl (fun _ => 0)))]) [0, 1] rfl
    have hD9 := hD.sub (ws' := [(mo, .inr (12, [.int 0, .ref m1, .ref m2, .ref m3, .ref m4, .ref m5, .int 0, .int 0, .int 0, .int 0, .int 0, .long 0, .int 0, .int 0, .int 0, .int (-1), .ref m16, .ref m17, .ref m18, .ref m19, .ref m20, .ref m21, .ref m22, .ref m23, .int 0, .ref m25, .ref m26, .ref m27, .ref m28, .ref m29, .int 0, .ref m31, .ref m32, .ref m33, .int 0, .int 0, .int 0, .ref m37, .ref m38, .ref m39, .ref m40, .long 0])), (m23, .inl (k 3, 3, .inl (fun _ => 0)))]) [0, 1] (by decide) rfl
    exact W.iret (v := (-2)) hx hb hr (fun tZ ht hW => ⟨⟨(-2), (), rfl, (show (-2) = sp_back p0 from by unfold sp_back; first | (rw [if_neg (by omega)]) | (rw [if_pos (by omega)])), by rw [ht]; exact hP9, va_K.moved hW.alike hK, hD9⟩, hS.F ht⟩) hS.2.2 dX12_back_19
set_option maxHeartbeats 4000000 in
set_option maxRecDepth 100000 in
theorem c_X12_row (l : Launch) (D : va_G) (k : Nat → ClassId) (mo : Nat) (m1 : Nat) (m2 : Nat) (m3 : Nat) (m4 : Nat) (m5 : Nat) (m16 : Nat) (m17 : Nat) (m18 : Nat) (m19 : Nat) (m20 : Nat) (m21 : Nat) (m22 : Nat) (m23 : Nat) (m25 : Nat) (m26 : Nat) (m27 : Nat) (m28 : Nat) (m29 : Nat) (m31 : Nat) (m32 : Nat) (m33 : Nat) (m37 : Nat) (m38 : Nat) (m39 : Nat) (m40 : Nat) (fw : Nat → Int32) (fm : Nat → Int32) (fc : Nat → Int64) (p0 : Int32) (p1 : Int32) (p2 : Int32) (sz : Nat) : Met l yX12_row (ww yX12_row cX12_row 5 (some .int)) ({ frames := 2, cells := 0, slots := 0, locals := 45 }) (Pre0 D k [(mo, .inr (12, [.int 0, .ref m1, .ref m2, .ref m3, .ref m4, .ref m5, .int 0, .int 0, .int 0, .int 0, .int 0, .long 0, .int 0, .int 0, .int 0, .int (-1), .ref m16, .ref m17, .ref m18, .ref m19, .ref m20, .ref m21, .ref m22, .ref m23, .int 0, .ref m25, .ref m26, .ref m27, .ref m28, .ref m29, .int 0, .ref m31, .ref m32, .ref m33, .int 0, .int 0, .int 0, .ref m37, .ref m38, .ref m39, .ref m40, .long 0])), (m1, .inl (k 0, 4, .inl fw)), (m2, .inl (k 0, 4, .inl fm)), (m3, .inl (k 2, 240, .inr (.inl fc)))] sz [.ref mo, .int p0, .int p1, .int p2]) (va_Qi (fun (r : Int32) (_ : Unit) => r = sp_row p0 p1 p2) (fun (_ : Unit) tZ => Bw D k (va_A [(mo, .inr (12, [.int 0, .ref m1, .ref m2, .ref m3, .ref m4, .ref m5, .int 0, .int 0, .int 0, .int 0, .int 0, .long 0, .int 0, .int 0, .int 0, .int (-1), .ref m16, .ref m17, .ref m18, .ref m19, .ref m20, .ref m21, .ref m22, .ref m23, .int 0, .ref m25, .ref m26, .ref m27, .ref m28, .ref m29, .int 0, .ref m31, .ref m32, .ref m33, .int 0, .int 0, .int 0, .ref m37, .ref m38, .ref m39, .ref m40, .long 0])), (m1, .inl (k 0, 4, .inl fw)), (m2, .inl (k 0, 4, .inl fm)), (m3, .inl (k 2, 240, .inr (.inl fc)))] sz) [] tZ) (va_A [(mo, .inr (12, [.int 0, .ref m1, .ref m2, .ref m3, .ref m4, .ref m5, .int 0, .int 0, .int 0, .int 0, .int 0, .long 0, .int 0, .int 0, .int 0, .int (-1), .ref m16, .ref m17, .ref m18, .ref m19, .ref m20, .ref m21, .ref m22, .ref m23, .int 0, .ref m25, .ref m26, .ref m27, .ref m28, .ref m29, .int 0, .ref m31, .ref m32, .ref m33, .int 0, .int 0, .int 0, .ref m37, .ref m38, .ref m39, .ref m40, .long 0])), (m1, .inl (k 0, 4, .inl fw)), (m2, .inl (k 0, 4, .inl fm)), (m3, .inl (k 2, 240, .inr (.inl fc)))] sz)) 0 0 (va_A [(mo, .inr (12, [.int 0, .ref m1, .ref m2, .ref m3, .ref m4, .ref m5, .int 0, .int 0, .int 0, .int 0, .int 0, .long 0, .int 0, .int 0, .int 0, .int (-1), .ref m16, .ref m17, .ref m18, .ref m19, .ref m20, .ref m21, .ref m22, .ref m23, .int 0, .ref m25, .ref m26, .ref m27, .ref m28, .ref m29, .int 0, .ref m31, .ref m32, .ref m33, .int 0, .int 0, .int 0, .ref m37, .ref m38, .ref m39, .ref m40, .long 0])), (m1, .inl (k 0, 4, .inl fw)), (m2, .inl (k 0, 4, .inl fm)), (m3, .inl (k 2, 240, .inr (.inl fc)))] sz) := by
  refine Met.ofW (cc := cX12_row) (maxL := 5) (ret := (some .int)) (by decide +kernel) rfl ?_
  intro p e s m args below meth c s₁ B hml hv
  obtain ⟨rfl, hsz, hP, hK, hD0, hN⟩ := hv
  have hx := B.exec
  have hb := B.bytes
  have hr := B.returns
  have hts : ∀ w ∈ TT, w.before _ s = true := fun w h => atoms_spec (ws := ww yX12_row cX12_row 5 (some .int)) B.pre w (List.mem_cons_of_mem _ h)
  have hown : s.vm.findClass RX12 = some m.cls := findClass_of_methodNamed B.named
  have hlocks := B.notSynchronized
  subst hsz
  have hD := hD0.self (sz := s.heap.size)
  generalize hAe : va_A [(mo, .inr (12, [.int 0, .ref m1, .ref m2, .ref m3, .ref m4, .ref m5, .int 0, .int 0, .int 0, .int 0, .int 0, .long 0, .int 0, .int 0, .int 0, .int (-1), .ref m16, .ref m17, .ref m18, .ref m19, .ref m20, .ref m21, .ref m22, .ref m23, .int 0, .ref m25, .ref m26, .ref m27, .ref m28, .ref m29, .int 0, .ref m31, .ref m32, .ref m33, .int 0, .int 0, .int 0, .ref m37, .ref m38, .ref m39, .ref m40, .long 0])), (m1, .inl (k 0, 4, .inl fw)), (m2, .inl (k 0, 4, .inl fm)), (m3, .inl (k 2, 240, .inr (.inl fc)))] s.heap.size = A at hD ⊢
  have hA : ∀ q : Nat, s.heap.size ≤ q → A q := fun q h => by rw [← hAe]; exact Or.inr h
  have hS : va_S A s.heap s.heap [] := va_S.rf
  have hl := lv_entry ([.ref mo, .int p0, .int p1, .int p2]) (n := 5) (Nat.le_of_ble_eq_true rfl)
  rw [lg_entry_eq]
  generalize (lg_sl ([.ref mo, .int p0, .int p1, .int p2]) ++ List.replicate (5 - (lg_sl ([.ref mo, .int p0, .int p1, .int p2])).length) Slot.unset).toArray = ls at hl ⊢
  have hl : lv_has ls 5 [(0, .ref mo), (1, .int p0), (2, .int p1), (3, .int p2)] := hl
  refine lv_aload_n hx hb dX12_row_0 rfl (lv_at hl 0 rfl) ?_
  refine lv_iconst (v := 0) hx hb dX12_row_1 (by decide) ?_
  refine va_put (D := D) (ci := 12) (v := .int 0) (ty := tyX12 0) (C := RX12) (T := TX12) (N := 42) hx hb hts iT_X12 tyX12 tyX12_ok nmX12 hown hK hP hD hS 0 rfl rfl 0 (by decide) (hts _ tw_6_53) (fun _ h9 => h9) rfl (tyX12_ok 0 (by decide)) rfl rfl (Nat.le_of_ble_eq_true rfl) dX12_row_2 (fun H locs hP hD hS => ?_)
  have hP : va_P D vwCl [(mo, .inr (12, [.int 0, .ref m1, .ref m2, .ref m3, .ref m4, .ref m5, .int 0, .int 0, .int 0, .int 0, .int 0, .long 0, .int 0, .int 0, .int 0, .int (-1), .ref m16, .ref m17, .ref m18, .ref m19, .ref m20, .ref m21, .ref m22, .ref m23, .int 0, .ref m25, .ref m26, .ref m27, .ref m28, .ref m29, .int 0, .ref m31, .ref m32, .ref m33, .int 0, .int 0, .int 0, .ref m37, .ref m38, .ref m39, .ref m40, .long 0])), (m1, .inl (k 0, 4, .inl fw)), (m2, .inl (k 0, 4, .inl fm)), (m3, .inl (k 2, 240, .inr (.inl fc)))] H := hP
  have hD : va_D A [(mo, .inr (12, [.int 0, .ref m1, .ref m2, .ref m3, .ref m4, .ref m5, .int 0, .int 0, .int 0, .int 0, .int 0, .long 0, .int 0, .int 0, .int 0, .int (-1), .ref m16, .ref m17, .ref m18, .ref m19, .ref m20, .ref m21, .ref m22, .ref m23, .int 0, .ref m25, .ref m26, .ref m27, .ref m28, .ref m29, .int 0, .ref m31, .ref m32, .ref m33, .int 0, .int 0, .int 0, .ref m37, .ref m38, .ref m39, .ref m40, .long 0])), (m1, .inl (k 0, 4, .inl fw)), (m2, .inl (k 0, 4, .inl fm)), (m3, .inl (k 2, 240, .inr (.inl fc)))] := hD
  refine lv_iload_n hx hb dX12_row_5 rfl (lv_at hl 1 rfl) ?_
  have hPc := hP.sub (ws' := []) [] rfl
  have hDc := hD.sub (ws' := []) [] (by decide) rfl
  have hFc := va_free (wc := []) hD hS hA [] rfl
  refine va_calli (va_runS (As := [.int p0]) (rest := []) ⟨hx, hb, hml, hown, hts⟩ (c_X12_isSlot l D k p0 H.size) (va_cwS 1 hts (gS tw_6_184 tw_6_185 tw_1_13 tw_6_186) rfl rfl rfl hdS_X12_isSlot ⟨Nat.le_of_ble_eq_true rfl, Nat.le_of_ble_eq_true rfl⟩) (cz_S hK hPc hDc hN [.int p0]) rfl rfl hl.1 rfl (lv_room (Nat.le_of_ble_eq_true rfl)) dX12_row_6 ⟨Nat.le_of_ble_eq_true rfl, Nat.le_of_ble_eq_true rfl⟩) hS (fun q _ h => hFc q h) hFc (fun r_1 uZ tZ H1 locs ht hvm hw hB hz1 hk1 hS => ?_)
  obtain ⟨hP1, hK1, hD1⟩ := hB
  rw [ht] at hP1
  obtain ⟨hP, hD⟩ := va_join (wr := [(mo, .inr (12, [.int 0, .ref m1, .ref m2, .ref m3, .ref m4, .ref m5, .int 0, .int 0, .int 0, .int 0, .int 0, .long 0, .int 0, .int 0, .int 0, .int (-1), .ref m16, .ref m17, .ref m18, .ref m19, .ref m20, .ref m21, .ref m22, .ref m23, .int 0, .ref m25, .ref m26, .ref m27, .ref m28, .ref m29, .int 0, .ref m31, .ref m32, .ref m33, .int 0, .int 0, .int 0, .ref m37, .ref m38, .ref m39, .ref m40, .long 0])), (m1, .inl (k 0, 4, .inl fw)), (m2, .inl (k 0, 4, .inl fm)), (m3, .inl (k 2, 240, .inr (.inl fc)))]) (w1 := []) hP hD [] [0, 1, 2, 3] rfl rfl (by decide) (by decide) hk1 hFc hP1 hD1
  clear hK1 hP1 hD1 hPc hDc hFc
  clear hk1 hz1 ht hvm
  have hP : va_P D vwCl [(mo, .inr (12, [.int 0, .ref m1, .ref m2, .ref m3, .ref m4, .ref m5, .int 0, .int 0, .int 0, .int 0, .int 0, .long 0, .int 0, .int 0, .int 0, .int (-1), .ref m16, .ref m17, .ref m18, .ref m19, .ref m20, .ref m21, .ref m22, .ref m23, .int 0, .ref m25, .ref m26, .ref m27, .ref m28, .ref m29, .int 0, .ref m31, .ref m32, .ref m33, .int 0, .int 0, .int 0, .ref m37, .ref m38, .ref m39, .ref m40, .long 0])), (m1, .inl (k 0, 4, .inl fw)), (m2, .inl (k 0, 4, .inl fm)), (m3, .inl (k 2, 240, .inr (.inl fc)))] H1 := hP
  have hD : va_D A [(mo, .inr (12, [.int 0, .ref m1, .ref m2, .ref m3, .ref m4, .ref m5, .int 0, .int 0, .int 0, .int 0, .int 0, .long 0, .int 0, .int 0, .int 0, .int (-1), .ref m16, .ref m17, .ref m18, .ref m19, .ref m20, .ref m21, .ref m22, .ref m23, .int 0, .ref m25, .ref m26, .ref m27, .ref m28, .ref m29, .int 0, .ref m31, .ref m32, .ref m33, .int 0, .int 0, .int 0, .ref m37, .ref m38, .ref m39, .ref m40, .long 0])), (m1, .inl (k 0, 4, .inl fw)), (m2, .inl (k 0, 4, .inl fm)), (m3, .inl (k 2, 240, .inr (.inl fc)))] := hD
  generalize H1 = H at hP hS ⊢
  have hw_2 : (r_1.toInt = 1 ∧ 0 ≤ p0.toInt ∧ p0.toInt < 4) ∨ (r_1.toInt = 0 ∧ (p0.toInt < 0 ∨ 4 ≤ p0.toInt)) := hw
  clear hw
  refine lv_if_eq (tgt := 30) hx hb dX12_row_9 (by decide) (fun h_3 => ?_) (fun h_3 => ?_)
  · skip
    have zh_3 : r_1.toInt = 0 := z_eq h_3
    refine lv_bipush (v := (-2)) hx hb dX12_row_30 (by decide) ?_
    have hP9 := hP.sub (ws' := []) [] rfl
    have hD9 := hD.sub (ws' := []) [] (by decide) rfl
    exact W.iret (v := (-2)) hx hb hr (fun tZ ht hW => ⟨⟨(-2), (), rfl, (show (-2) = sp_row p0 p1 p2 from by unfold sp_row; first | (rw [if_neg (by omega)]) | (rw [if_pos (by omega), if_neg (by omega)]) | (rw [if_pos (by omega), if_pos (by omega)])), by rw [ht]; exact hP9, va_K.moved hW.alike hK, hD9⟩, hS.F ht⟩) hS.2.2 dX12_row_32
  · skip
    have zh_3 : ¬ r_1.toInt = 0 := z_ne h_3
    refine lv_iload_n hx hb dX12_row_12 rfl (lv_at hl 2 rfl) ?_
    refine lv_i2l (v := p1.toInt64) hx hb dX12_row_13 rfl ?_
    refine lv_lconst (v := 0) hx hb dX12_row_14 (by decide) ?_
    refine lv_ldc2 (v := 3) hx hb hown (hts _ tw_6_187) dX12_row_15 ?_
    have hPc := hP.sub (ws' := []) [] rfl
    have hDc := hD.sub (ws' := []) [] (by decide) rfl
    have hFc := va_free (wc := []) hD hS hA [] rfl
    refine va_calli (va_runS (As := [.long p1.toInt64, .long 0, .long 3]) (rest := []) ⟨hx, hb, hml, hown, hts⟩ (c_X12_in l D k p1.toInt64 0 3 H.size) (va_cwS 3 hts (gS tw_6_188 tw_6_189 tw_1_13 tw_6_190) rfl rfl rfl hdS_X12_in ⟨Nat.le_of_ble_eq_true rfl, Nat.le_of_ble_eq_true rfl⟩) (cz_S hK hPc hDc hN [.long p1.toInt64, .long 0, .long 3]) rfl rfl hl.1 rfl (lv_room (Nat.le_of_ble_eq_true rfl)) dX12_row_18 ⟨Nat.le_of_ble_eq_true rfl, Nat.le_of_ble_eq_true rfl⟩) hS (fun q _ h => hFc q h) hFc (fun r_4 uZ tZ H1 locs ht hvm hw hB hz1 hk1 hS => ?_)
    obtain ⟨hP1, hK1, hD1⟩ := hB
    rw [ht] at hP1
    obtain ⟨hP, hD⟩ := va_join (wr := [(mo, .inr (12, [.int 0, .ref m1, .ref m2, .ref m3, .ref m4, .ref m5, .int 0, .int 0, .int 0, .int 0, .int 0, .long 0, .int 0, .int 0, .int 0, .int (-1), .ref m16, .ref m17, .ref m18, .ref m19, .ref m20, .ref m21, .ref m22, .ref m23, .int 0, .ref m25, .ref m26, .ref m27, .ref m28, .ref m29, .int 0, .ref m31, .ref m32, .ref m33, .int 0, .int 0, .int 0, .ref m37, .ref m38, .ref m39, .ref m40, .long 0])), (m1, .inl (k 0, 4, .inl fw)), (m2, .inl (k 0, 4, .inl fm)), (m3, .inl (k 2, 240, .inr (.inl fc)))]) (w1 := []) hP hD [] [0, 1, 2, 3] rfl rfl (by decide) (by decide) hk1 hFc hP1 hD1
    clear hK1 hP1 hD1 hPc hDc hFc
    clear hk1 hz1 ht hvm
    have hP : va_P D vwCl [(mo, .inr (12, [.int 0, .ref m1, .ref m2, .ref m3, .ref m4, .ref m5, .int 0, .int 0, .int 0, .int 0, .int 0, .long 0, .int 0, .int 0, .int 0, .int (-1), .ref m16, .ref m17, .ref m18, .ref m19, .ref m20, .ref m21, .ref m22, .ref m23, .int 0, .ref m25, .ref m26, .ref m27, .ref m28, .ref m29, .int 0, .ref m31, .ref m32, .ref m33, .int 0, .int 0, .int 0, .ref m37, .ref m38, .ref m39, .ref m40, .long 0])), (m1, .inl (k 0, 4, .inl fw)), (m2, .inl (k 0, 4, .inl fm)), (m3, .inl (k 2, 240, .inr (.inl fc)))] H1 := hP
    have hD : va_D A [(mo, .inr (12, [.int 0, .ref m1, .ref m2, .ref m3, .ref m4, .ref m5, .int 0, .int 0, .int 0, .int 0, .int 0, .long 0, .int 0, .int 0, .int 0, .int (-1), .ref m16, .ref m17, .ref m18, .ref m19, .ref m20, .ref m21, .ref m22, .ref m23, .int 0, .ref m25, .ref m26, .ref m27, .ref m28, .ref m29, .int 0, .ref m31, .ref m32, .ref m33, .int 0, .int 0, .int 0, .ref m37, .ref m38, .ref m39, .ref m40, .long 0])), (m1, .inl (k 0, 4, .inl fw)), (m2, .inl (k 0, 4, .inl fm)), (m3, .inl (k 2, 240, .inr (.inl fc)))] := hD
    generalize H1 = H at hP hS ⊢
    have hw_5 : (r_4.toInt = 1 ∧ 0 ≤ p1.toInt64.toInt ∧ p1.toInt64.toInt ≤ 3) ∨ (r_4.toInt = 0 ∧ (p1.toInt64.toInt < 0 ∨ 3 < p1.toInt64.toInt)) := hw
    simp only [Int32.toInt_toInt64] at hw_5
    clear hw
    refine lv_if_eq (tgt := 30) hx hb dX12_row_21 (by decide) (fun h_6 => ?_) (fun h_6 => ?_)
    · skip
      have zh_6 : r_4.toInt = 0 := z_eq h_6
      refine lv_bipush (v := (-2)) hx hb dX12_row_30 (by decide) ?_
      have hP9 := hP.sub (ws' := []) [] rfl
      have hD9 := hD.sub (ws' := []) [] (by decide) rfl
      exact W.iret (v := (-2)) hx hb hr (fun tZ ht hW => ⟨⟨(-2), (), rfl, (show (-2) = sp_row p0 p1 p2 from by unfold sp_row; first | (rw [if_neg (by omega)]) | (rw [if_pos (by omega), if_neg (by omega)]) | (rw [if_pos (by omega), if_pos (by omega)])), by rw [ht]; exact hP9, va_K.moved hW.alike hK, hD9⟩, hS.F ht⟩) hS.2.2 dX12_row_32
    · skip
      have zh_6 : ¬ r_4.toInt = 0 := z_ne h_6
      refine lv_iload_n hx hb dX12_row_24 rfl (lv_at hl 3 rfl) ?_
      refine lv_bipush (v := 60) hx hb dX12_row_25 (by decide) ?_
      refine lv_icmp_le (tgt := 33) hx hb dX12_row_27 (by decide) (fun h_7 => ?_) (fun h_7 => ?_)
      · skip
        have zh_7 : p2.toInt ≤ 60 := z_le h_7
        refine lv_iload_n hx hb dX12_row_33 rfl (lv_at hl 3 rfl) ?_
        refine lv_if_ge (tgt := 40) hx hb dX12_row_34 (by decide) (fun h_8 => ?_) (fun h_8 => ?_)
        · skip
          have zh_8 : 0 ≤ p2.toInt := z_le h_8
          rcases z_c4 p0 (by omega) (by omega) with rfl | rfl | rfl | rfl
          · skip
            refine lv_aload_n hx hb dX12_row_40 rfl (lv_at hl 0 rfl) ?_
            refine va_get (D := D) (ci := 12) (v := .ref m1) (C := RX12) (T := TX12) (N := 42) hx hb hts iT_X12 hown hK hP 0 rfl rfl 1 (by decide) (hts _ tw_6_54) (fun _ h9 => h9) rfl dX12_row_41 ?_
            refine lv_iload_n hx hb dX12_row_44 rfl (lv_at hl 1 rfl) ?_
            refine lv_iload_n hx hb dX12_row_45 rfl (lv_at hl 2 rfl) ?_
            refine va_iast hx hb hK hP hD hS 1 0 rfl rfl (z_in (by decide) (by decide)) dX12_row_46 (fun H locs hP hD hS => ?_)
            have hP : va_P D vwCl [(mo, .inr (12, [.int 0, .ref m1, .ref m2, .ref m3, .ref m4, .ref m5, .int 0, .int 0, .int 0, .int 0, .int 0, .long 0, .int 0, .int 0, .int 0, .int (-1), .ref m16, .ref m17, .ref m18, .ref m19, .ref m20, .ref m21, .ref m22, .ref m23, .int 0, .ref m25, .ref m26, .ref m27, .ref m28, .ref m29, .int 0, .ref m31, .ref m32, .ref m33, .int 0, .int 0, .int 0, .ref m37, .ref m38, .ref m39, .ref m40, .long 0])), (m1, .inl (k 0, 4, .inl (upd fw 0 p1))), (m2, .inl (k 0, 4, .inl fm)), (m3, .inl (k 2, 240, .inr (.inl fc)))] H := hP
            have hD : va_D A [(mo, .inr (12, [.int 0, .ref m1, .ref m2, .ref m3, .ref m4, .ref m5, .int 0, .int 0, .int 0, .int 0, .int 0, .long 0, .int 0, .int 0, .int 0, .int (-1), .ref m16, .ref m17, .ref m18, .ref m19, .ref m20, .ref m21, .ref m22, .ref m23, .int 0, .ref m25, .ref m26, .ref m27, .ref m28, .ref m29, .int 0, .ref m31, .ref m32, .ref m33, .int 0, .int 0, .int 0, .ref m37, .ref m38, .ref m39, .ref m40, .long 0])), (m1, .inl (k 0, 4, .inl (upd fw 0 p1))), (m2, .inl (k 0, 4, .inl fm)), (m3, .inl (k 2, 240, .inr (.inl fc)))] := hD
            refine lv_aload_n hx hb dX12_row_47 rfl (lv_at hl 0 rfl) ?_
            refine va_get (D := D) (ci := 12) (v := .ref m2) (C := RX12) (T := TX12) (N := 42) hx hb hts iT_X12 hown hK hP 0 rfl rfl 2 (by decide) (hts _ tw_6_55) (fun _ h9 => h9) rfl dX12_row_48 ?_
            refine lv_iload_n hx hb dX12_row_51 rfl (lv_at hl 1 rfl) ?_
            refine lv_iload_n hx hb dX12_row_52 rfl (lv_at hl 3 rfl) ?_
            refine va_iast hx hb hK hP hD hS 2 0 rfl rfl (z_in (by decide) (by decide)) dX12_row_53 (fun H locs hP hD hS => ?_)
            have hP : va_P D vwCl [(mo, .inr (12, [.int 0, .ref m1, .ref m2, .ref m3, .ref m4, .ref m5, .int 0, .int 0, .int 0, .int 0, .int 0, .long 0, .int 0, .int 0, .int 0, .int (-1), .ref m16, .ref m17, .ref m18, .ref m19, .ref m20, .ref m21, .ref m22, .ref m23, .int 0, .ref m25, .ref m26, .ref m27, .ref m28, .ref m29, .int 0, .ref m31, .ref m32, .ref m33, .int 0, .int 0, .int 0, .ref m37, .ref m38, .ref m39, .ref m40, .long 0])), (m1, .inl (k 0, 4, .inl (upd fw 0 p1))), (m2, .inl (k 0, 4, .inl (upd fm 0 p2))), (m3, .inl (k 2, 240, .inr (.inl fc)))] H := hP
            have hD : va_D A [(mo, .inr (12, [.int 0, .ref m1, .ref m2, .ref m3, .ref m4, .ref m5, .int 0, .int 0, .int 0, .int 0, .int 0, .long 0, .int 0, .int 0, .int 0, .int (-1), .ref m16, .ref m17, .ref m18, .ref m19, .ref m20, .ref m21, .ref m22, .ref m23, .int 0, .ref m25, .ref m26, .ref m27, .ref m28, .ref m29, .int 0, .ref m31, .ref m32, .ref m33, .int 0, .int 0, .int 0, .ref m37, .ref m38, .ref m39, .ref m40, .long 0])), (m1, .inl (k 0, 4, .inl (upd fw 0 p1))), (m2, .inl (k 0, 4, .inl (upd fm 0 p2))), (m3, .inl (k 2, 240, .inr (.inl fc)))] := hD
            refine lv_iconst (v := 0) hx hb dX12_row_54 (by decide) ?_
            refine lv_istore (lv' := [(4, .int 0), (0, .ref mo), (1, .int 0), (2, .int p1), (3, .int p2)]) hx hb dX12_row_55 hl (by decide) rfl (fun ls hl => ?_)
            refine loop_r (Wg := fun H locs ls => W p l e _ s m _ below meth c H locs _ _ _ (F0 m 57 ls [])) (fun n9 H locs ls => ∃ (i : Int32) (gn : Nat → Int64), n9 = (p2.toInt - i.toInt).toNat ∧ (0 ≤ i.toInt) ∧ (i.toInt ≤ p2.toInt) ∧ va_P D vwCl [(mo, .inr (12, [.int 0, .ref m1, .ref m2, .ref m3, .ref m4, .ref m5, .int 0, .int 0, .int 0, .int 0, .int 0, .long 0, .int 0, .int 0, .int 0, .int (-1), .ref m16, .ref m17, .ref m18, .ref m19, .ref m20, .ref m21, .ref m22, .ref m23, .int 0, .ref m25, .ref m26, .ref m27, .ref m28, .ref m29, .int 0, .ref m31, .ref m32, .ref m33, .int 0, .int 0, .int 0, .ref m37, .ref m38, .ref m39, .ref m40, .long 0])), (m1, .inl (k 0, 4, .inl (upd fw 0 p1))), (m2, .inl (k 0, 4, .inl (upd fm 0 p2))), (m3, .inl (k 2, 240, .inr (.inl gn)))] H ∧ va_D A [(mo, .inr (12, [.int 0, .ref m1, .ref m2, .ref m3, .ref m4, .ref m5, .int 0, .int 0, .int 0, .int 0, .int 0, .long 0, .int 0, .int 0, .int 0, .int (-1), .ref m16, .ref m17, .ref m18, .ref m19, .ref m20, .ref m21, .ref m22, .ref m23, .int 0, .ref m25, .ref m26, .ref m27, .ref m28, .ref m29, .int 0, .ref m31, .ref m32, .ref m33, .int 0, .int 0, .int 0, .ref m37, .ref m38, .ref m39, .ref m40, .long 0])), (m1, .inl (k 0, 4, .inl (upd fw 0 p1))), (m2, .inl (k 0, 4, .inl (upd fm 0 p2))), (m3, .inl (k 2, 240, .inr (.inl gn)))] ∧ va_S A s.heap H locs ∧ lv_has ls 5 [(4, .int i), (0, .ref mo), (1, .int 0), (2, .int p1), (3, .int p2)]) (fun n9 H locs ls hI ih_9 => ?_) _ _ _ _ ⟨0, fc, rfl, (show 0 ≤ 0 from by omega), (show 0 ≤ p2.toInt from by omega), hP.sub (ws' := [(mo, .inr (12, [.int 0, .ref m1, .ref m2, .ref m3, .ref m4, .ref m5, .int 0, .int 0, .int 0, .int 0, .int 0, .long 0, .int 0, .int 0, .int 0, .int (-1), .ref m16, .ref m17, .ref m18, .ref m19, .ref m20, .ref m21, .ref m22, .ref m23, .int 0, .ref m25, .ref m26, .ref m27, .ref m28, .ref m29, .int 0, .ref m31, .ref m32, .ref m33, .int 0, .int 0, .int 0, .ref m37, .ref m38, .ref m39, .ref m40, .long 0])), (m1, .inl (k 0, 4, .inl (upd fw 0 p1))), (m2, .inl (k 0, 4, .inl (upd fm 0 p2))), (m3, .inl (k 2, 240, .inr (.inl fc)))]) [0, 1, 2, 3] rfl, hD.sub (ws' := [(mo, .inr (12, [.int 0, .ref m1, .ref m2, .ref m3, .ref m4, .ref m5, .int 0, .int 0, .int 0, .int 0, .int 0, .long 0, .int 0, .int 0, .int 0, .int (-1), .ref m16, .ref m17, .ref m18, .ref m19, .ref m20, .ref m21, .ref m22, .ref m23, .int 0, .ref m25, .ref m26, .ref m27, .ref m28, .ref m29, .int 0, .ref m31, .ref m32, .ref m33, .int 0, .int 0, .int 0, .ref m37, .ref m38, .ref m39, .ref m40, .long 0])), (m1, .inl (k 0, 4, .inl (upd fw 0 p1))), (m2, .inl (k 0, 4, .inl (upd fm 0 p2))), (m3, .inl (k 2, 240, .inr (.inl fc)))]) [0, 1, 2, 3] (by decide) rfl, hS, lv_sub hl [0, 1, 2, 3, 4] rfl⟩
            clear hP hD hS hl
            obtain ⟨i, gn, en_10, hi1, hi2, hP, hD, hS, hl⟩ := hI
            refine lv_iload hx hb dX12_row_57 (lv_at hl 0 rfl) ?_
            refine lv_iload_n hx hb dX12_row_59 rfl (lv_at hl 4 rfl) ?_
            refine lv_icmp_ge (tgt := 82) hx hb dX12_row_60 (by decide) (fun h_11 => ?_) (fun h_11 => ?_)
            · skip
              have zh_11 : p2.toInt ≤ i.toInt := z_le h_11
              refine lv_iconst (v := 0) hx hb dX12_row_82 (by decide) ?_
              have hP9 := hP.sub (ws' := []) [] rfl
              have hD9 := hD.sub (ws' := []) [] (by decide) rfl
              exact W.iret (v := 0) hx hb hr (fun tZ ht hW => ⟨⟨0, (), rfl, (show 0 = sp_row 0 p1 p2 from by unfold sp_row; first | (rw [if_neg (by omega)]) | (rw [if_pos (by omega), if_neg (by omega)]) | (rw [if_pos (by omega), if_pos (by omega)])), by rw [ht]; exact hP9, va_K.moved hW.alike hK, hD9⟩, hS.F ht⟩) hS.2.2 dX12_row_83
            · skip
              have zh_11 : i.toInt < p2.toInt := z_nle h_11
              refine lv_aload_n hx hb dX12_row_63 rfl (lv_at hl 1 rfl) ?_
              refine va_get (D := D) (ci := 12) (v := .ref m3) (C := RX12) (T := TX12) (N := 42) hx hb hts iT_X12 hown hK hP 0 rfl rfl 3 (by decide) (hts _ tw_6_56) (fun _ h9 => h9) rfl dX12_row_64 ?_
              refine lv_bipush (v := 60) hx hb dX12_row_67 (by decide) ?_
              refine lv_iload_n hx hb dX12_row_69 rfl (lv_at hl 2 rfl) ?_
              refine lv_imul hx hb dX12_row_70 ?_
              refine lv_topi (fun x_12 ex_12 => ?_)
              obtain rfl : x_12 = 0 := ex_12.trans (by decide)
              refine lv_iload hx hb dX12_row_71 (lv_at hl 0 rfl) ?_
              refine lv_iadd hx hb dX12_row_73 ?_
              refine lv_topi (fun x_13 ex_13 => ?_)
              have zx_13 : x_13.toInt = 0 + i.toInt := by rw [ex_13]; exact z_add rfl rfl (by omega) (by omega)
              refine lv_lconst (v := 0) hx hb dX12_row_74 (by decide) ?_
              refine va_last hx hb hK hP hD hS 3 2 rfl rfl (z_in (by omega) (by omega)) dX12_row_75 (fun H locs hP hD hS => ?_)
              have hP : va_P D vwCl [(mo, .inr (12, [.int 0, .ref m1, .ref m2, .ref m3, .ref m4, .ref m5, .int 0, .int 0, .int 0, .int 0, .int 0, .long 0, .int 0, .int 0, .int 0, .int (-1), .ref m16, .ref m17, .ref m18, .ref m19, .ref m20, .ref m21, .ref m22, .ref m23, .int 0, .ref m25, .ref m26, .ref m27, .ref m28, .ref m29, .int 0, .ref m31, .ref m32, .ref m33, .int 0, .int 0, .int 0, .ref m37, .ref m38, .ref m39, .ref m40, .long 0])), (m1, .inl (k 0, 4, .inl (upd fw 0 p1))), (m2, .inl (k 0, 4, .inl (upd fm 0 p2))), (m3, .inl (k 2, 240, .inr (.inl (vp_updL gn x_13.toNatClampNeg 0))))] H := hP
              have hD : va_D A [(mo, .inr (12, [.int 0, .ref m1, .ref m2, .ref m3, .ref m4, .ref m5, .int 0, .int 0, .int 0, .int 0, .int 0, .long 0, .int 0, .int 0, .int 0, .int (-1), .ref m16, .ref m17, .ref m18, .ref m19, .ref m20, .ref m21, .ref m22, .ref m23, .int 0, .ref m25, .ref m26, .ref m27, .ref m28, .ref m29, .int 0, .ref m31, .ref m32, .ref m33, .int 0, .int 0, .int 0, .ref m37, .ref m38, .ref m39, .ref m40, .long 0])), (m1, .inl (k 0, 4, .inl (upd fw 0 p1))), (m2, .inl (k 0, 4, .inl (upd fm 0 p2))), (m3, .inl (k 2, 240, .inr (.inl (vp_updL gn x_13.toNatClampNeg 0))))] := hD
              obtain ⟨x_14, ex_14⟩ : ∃ y : Int32, y = i + 1 := ⟨_, rfl⟩
              have zx_14 : x_14.toInt = i.toInt + 1 := by rw [ex_14]; exact z_add rfl rfl (by omega) (by omega)
              refine lv_iinc (v := x_14) (lv' := [(4, .int x_14), (0, .ref mo), (1, .int 0), (2, .int p1), (3, .int p2)]) hx hb dX12_row_76 hl (k := 0) rfl (by rw [ex_14]; rfl) (by decide) rfl (fun ls hl => ?_)
              refine lv_goto (tgt := 57) hx hb dX12_row_79 (by decide) ?_
              exact ih_9 _ _ _ _ (by omega) ⟨x_14, (vp_updL gn x_13.toNatClampNeg 0), rfl, (show 0 ≤ x_14.toInt from by omega), (show x_14.toInt ≤ p2.toInt from by omega), hP.sub (ws' := [(mo, .inr (12, [.int 0, .ref m1, .ref m2, .ref m3, .ref m4, .ref m5, .int 0, .int 0, .int 0, .int 0, .int 0, .long 0, .int 0, .int 0, .int 0, .int (-1), .ref m16, .ref m17, .ref m18, .ref m19, .ref m20, .ref m21, .ref m22, .ref m23, .int 0, .ref m25, .ref m26, .ref m27, .ref m28, .ref m29, .int 0, .ref m31, .ref m32, .ref m33, .int 0, .int 0, .int 0, .ref m37, .ref m38, .ref m39, .ref m40, .long 0])), (m1, .inl (k 0, 4, .inl (upd fw 0 p1))), (m2, .inl (k 0, 4, .inl (upd fm 0 p2))), (m3, .inl (k 2, 240, .inr (.inl (vp_updL gn x_13.toNatClampNeg 0))))]) [0, 1, 2, 3] rfl, hD.sub (ws' := [(mo, .inr (12, [.int 0, .ref m1, .ref m2, .ref m3, .ref m4, .ref m5, .int 0, .int 0, .int 0, .int 0, .int 0, .long 0, .int 0, .int 0, .int 0, .int (-1), .ref m16, .ref m17, .ref m18, .ref m19, .ref m20, .ref m21, .ref m22, .ref m23, .int 0, .ref m25, .ref m26, .ref m27, .ref m28, .ref m29, .int 0, .ref m31, .ref m32, .ref m33, .int 0, .int 0, .int 0, .ref m37, .ref m38, .ref m39, .ref m40, .long 0])), (m1, .inl (k 0, 4, .inl (upd fw 0 p1))), (m2, .inl (k 0, 4, .inl (upd fm 0 p2))), (m3, .inl (k 2, 240, .inr (.inl (vp_updL gn x_13.toNatClampNeg 0))))]) [0, 1, 2, 3] (by decide) rfl, hS, lv_sub hl [0, 1, 2, 3, 4] rfl⟩
          · skip
            refine lv_aload_n hx hb dX12_row_40 rfl (lv_at hl 0 rfl) ?_
            refine va_get (D := D) (ci := 12) (v := .ref m1) (C := RX12) (T := TX12) (N := 42) hx hb hts iT_X12 hown hK hP 0 rfl rfl 1 (by decide) (hts _ tw_6_54) (fun _ h9 => h9) rfl dX12_row_41 ?_
            refine lv_iload_n hx hb dX12_row_44 rfl (lv_at hl 1 rfl) ?_
            refine lv_iload_n hx hb dX12_row_45 rfl (lv_at hl 2 rfl) ?_
            refine va_iast hx hb hK hP hD hS 1 0 rfl rfl (z_in (by decide) (by decide)) dX12_row_46 (fun H locs hP hD hS => ?_)
            have hP : va_P D vwCl [(mo, .inr (12, [.int 0, .ref m1, .ref m2, .ref m3, .ref m4, .ref m5, .int 0, .int 0, .int 0, .int 0, .int 0, .long 0, .int 0, .int 0, .int 0, .int (-1), .ref m16, .ref m17, .ref m18, .ref m19, .ref m20, .ref m21, .ref m22, .ref m23, .int 0, .ref m25, .ref m26, .ref m27, .ref m28, .ref m29, .int 0, .ref m31, .ref m32, .ref m33, .int 0, .int 0, .int 0, .ref m37, .ref m38, .ref m39, .ref m40, .long 0])), (m1, .inl (k 0, 4, .inl (upd fw 1 p1))), (m2, .inl (k 0, 4, .inl fm)), (m3, .inl (k 2, 240, .inr (.inl fc)))] H := hP
            have hD : va_D A [(mo, .inr (12, [.int 0, .ref m1, .ref m2, .ref m3, .ref m4, .ref m5, .int 0, .int 0, .int 0, .int 0, .int 0, .long 0, .int 0, .int 0, .int 0, .int (-1), .ref m16, .ref m17, .ref m18, .ref m19, .ref m20, .ref m21, .ref m22, .ref m23, .int 0, .ref m25, .ref m26, .ref m27, .ref m28, .ref m29, .int 0, .ref m31, .ref m32, .ref m33, .int 0, .int 0, .int 0, .ref m37, .ref m38, .ref m39, .ref m40, .long 0])), (m1, .inl (k 0, 4, .inl (upd fw 1 p1))), (m2, .inl (k 0, 4, .inl fm)), (m3, .inl (k 2, 240, .inr (.inl fc)))] := hD
            refine lv_aload_n hx hb dX12_row_47 rfl (lv_at hl 0 rfl) ?_
            refine va_get (D := D) (ci := 12) (v := .ref m2) (C := RX12) (T := TX12) (N := 42) hx hb hts iT_X12 hown hK hP 0 rfl rfl 2 (by decide) (hts _ tw_6_55) (fun _ h9 => h9) rfl dX12_row_48 ?_
            refine lv_iload_n hx hb dX12_row_51 rfl (lv_at hl 1 rfl) ?_
            refine lv_iload_n hx hb dX12_row_52 rfl (lv_at hl 3 rfl) ?_
            refine va_iast hx hb hK hP hD hS 2 0 rfl rfl (z_in (by decide) (by decide)) dX12_row_53 (fun H locs hP hD hS => ?_)
            have hP : va_P D vwCl [(mo, .inr (12, [.int 0, .ref m1, .ref m2, .ref m3, .ref m4, .ref m5, .int 0, .int 0, .int 0, .int 0, .int 0, .long 0, .int 0, .int 0, .int 0, .int (-1), .ref m16, .ref m17, .ref m18, .ref m19, .ref m20, .ref m21, .ref m22, .ref m23, .int 0, .ref m25, .ref m26, .ref m27, .ref m28, .ref m29, .int 0, .ref m31, .ref m32, .ref m33, .int 0, .int 0, .int 0, .ref m37, .ref m38, .ref m39, .ref m40, .long 0])), (m1, .inl (k 0, 4, .inl (upd fw 1 p1))), (m2, .inl (k 0, 4, .inl (upd fm 1 p2))), (m3, .inl (k 2, 240, .inr (.inl fc)))] H := hP
            have hD : va_D A [(mo, .inr (12, [.int 0, .ref m1, .ref m2, .ref m3, .ref m4, .ref m5, .int 0, .int 0, .int 0, .int 0, .int 0, .long 0, .int 0, .int 0, .int 0, .int (-1), .ref m16, .ref m17, .ref m18, .ref m19, .ref m20, .ref m21, .ref m22, .ref m23, .int 0, .ref m25, .ref m26, .ref m27, .ref m28, .ref m29, .int 0, .ref m31, .ref m32, .ref m33, .int 0, .int 0, .int 0, .ref m37, .ref m38, .ref m39, .ref m40, .long 0])), (m1, .inl (k 0, 4, .inl (upd fw 1 p1))), (m2, .inl (k 0, 4, .inl (upd fm 1 p2))), (m3, .inl (k 2, 240, .inr (.inl fc)))] := hD
            refine lv_iconst (v := 0) hx hb dX12_row_54 (by decide) ?_
            refine lv_istore (lv' := [(4, .int 0), (0, .ref mo), (1, .int 1), (2, .int p1), (3, .int p2)]) hx hb dX12_row_55 hl (by decide) rfl (fun ls hl => ?_)
            refine loop_r (Wg := fun H locs ls => W p l e _ s m _ below meth c H locs _ _ _ (F0 m 57 ls [])) (fun n9 H locs ls => ∃ (i : Int32) (gn : Nat → Int64), n9 = (p2.toInt - i.toInt).toNat ∧ (0 ≤ i.toInt) ∧ (i.toInt ≤ p2.toInt) ∧ va_P D vwCl [(mo, .inr (12, [.int 0, .ref m1, .ref m2, .ref m3, .ref m4, .ref m5, .int 0, .int 0, .int 0, .int 0, .int 0, .long 0, .int 0, .int 0, .int 0, .int (-1), .ref m16, .ref m17, .ref m18, .ref m19, .ref m20, .ref m21, .ref m22, .ref m23, .int 0, .ref m25, .ref m26, .ref m27, .ref m28, .ref m29, .int 0, .ref m31, .ref m32, .ref m33, .int 0, .int 0, .int 0, .ref m37, .ref m38, .ref m39, .ref m40, .long 0])), (m1, .inl (k 0, 4, .inl (upd fw 1 p1))), (m2, .inl (k 0, 4, .inl (upd fm 1 p2))), (m3, .inl (k 2, 240, .inr (.inl gn)))] H ∧ va_D A [(mo, .inr (12, [.int 0, .ref m1, .ref m2, .ref m3, .ref m4, .ref m5, .int 0, .int 0, .int 0, .int 0, .int 0, .long 0, .int 0, .int 0, .int 0, .int (-1), .ref m16, .ref m17, .ref m18, .ref m19, .ref m20, .ref m21, .ref m22, .ref m23, .int 0, .ref m25, .ref m26, .ref m27, .ref m28, .ref m29, .int 0, .ref m31, .ref m32, .ref m33, .int 0, .int 0, .int 0, .ref m37, .ref m38, .ref m39, .ref m40, .long 0])), (m1, .inl (k 0, 4, .inl (upd fw 1 p1))), (m2, .inl (k 0, 4, .inl (upd fm 1 p2))), (m3, .inl (k 2, 240, .inr (.inl gn)))] ∧ va_S A s.heap H locs ∧ lv_has ls 5 [(4, .int i), (0, .ref mo), (1, .int 1), (2, .int p1), (3, .int p2)]) (fun n9 H locs ls hI ih_15 => ?_) _ _ _ _ ⟨0, fc, rfl, (show 0 ≤ 0 from by omega), (show 0 ≤ p2.toInt from by omega), hP.sub (ws' := [(mo, .inr (12, [.int 0, .ref m1, .ref m2, .ref m3, .ref m4, .ref m5, .int 0, .int 0, .int 0, .int 0, .int 0, .long 0, .int 0, .int 0, .int 0, .int (-1), .ref m16, .ref m17, .ref m18, .ref m19, .ref m20, .ref m21, .ref m22, .ref m23, .int 0, .ref m25, .ref m26, .ref m27, .ref m28, .ref m29, .int 0, .ref m31, .ref m32, .ref m33, .int 0, .int 0, .int 0, .ref m37, .ref m38, .ref m39, .ref m40, .long 0])), (m1, .inl (k 0, 4, .inl (upd fw 1 p1))), (m2, .inl (k 0, 4, .inl (upd fm 1 p2))), (m3, .inl (k 2, 240, .inr (.inl fc)))]) [0, 1, 2, 3] rfl, hD.sub (ws' := [(mo, .inr (12, [.int 0, .ref m1, .ref m2, .ref m3, .ref m4, .ref m5, .int 0, .int 0, .int 0, .int 0, .int 0, .long 0, .int 0, .int 0, .int 0, .int (-1), .ref m16, .ref m17, .ref m18, .ref m19, .ref m20, .ref m21, .ref m22, .ref m23, .int 0, .ref m25, .ref m26, .ref m27, .ref m28, .ref m29, .int 0, .ref m31, .ref m32, .ref m33, .int 0, .int 0, .int 0, .ref m37, .ref m38, .ref m39, .ref m40, .long 0])), (m1, .inl (k 0, 4, .inl (upd fw 1 p1))), (m2, .inl (k 0, 4, .inl (upd fm 1 p2))), (m3, .inl (k 2, 240, .inr (.inl fc)))]) [0, 1, 2, 3] (by decide) rfl, hS, lv_sub hl [0, 1, 2, 3, 4] rfl⟩
            clear hP hD hS hl
            obtain ⟨i, gn, en_16, hi1, hi2, hP, hD, hS, hl⟩ := hI
            refine lv_iload hx hb dX12_row_57 (lv_at hl 0 rfl) ?_
            refine lv_iload_n hx hb dX12_row_59 rfl (lv_at hl 4 rfl) ?_
            refine lv_icmp_ge (tgt := 82) hx hb dX12_row_60 (by decide) (fun h_17 => ?_) (fun h_17 => ?_)
            · skip
              have zh_17 : p2.toInt ≤ i.toInt := z_le h_17
              refine lv_iconst (v := 0) hx hb dX12_row_82 (by decide) ?_
              have hP9 := hP.sub (ws' := []) [] rfl
              have hD9 := hD.sub (ws' := []) [] (by decide) rfl
              exact W.iret (v := 0) hx hb hr (fun tZ ht hW => ⟨⟨0, (), rfl, (show 0 = sp_row 1 p1 p2 from by unfold sp_row; first | (rw [if_neg (by omega)]) | (rw [if_pos (by omega), if_neg (by omega)]) | (rw [if_pos (by omega), if_pos (by omega)])), by rw [ht]; exact hP9, va_K.moved hW.alike hK, hD9⟩, hS.F ht⟩) hS.2.2 dX12_row_83
            · skip
              have zh_17 : i.toInt < p2.toInt := z_nle h_17
              refine lv_aload_n hx hb dX12_row_63 rfl (lv_at hl 1 rfl) ?_
              refine va_get (D := D) (ci := 12) (v := .ref m3) (C := RX12) (T := TX12) (N := 42) hx hb hts iT_X12 hown hK hP 0 rfl rfl 3 (by decide) (hts _ tw_6_56) (fun _ h9 => h9) rfl dX12_row_64 ?_
              refine lv_bipush (v := 60) hx hb dX12_row_67 (by decide) ?_
              refine lv_iload_n hx hb dX12_row_69 rfl (lv_at hl 2 rfl) ?_
              refine lv_imul hx hb dX12_row_70 ?_
              refine lv_topi (fun x_18 ex_18 => ?_)
              obtain rfl : x_18 = 60 := ex_18.trans (by decide)
              refine lv_iload hx hb dX12_row_71 (lv_at hl 0 rfl) ?_
              refine lv_iadd hx hb dX12_row_73 ?_
              refine lv_topi (fun x_19 ex_19 => ?_)
              have zx_19 : x_19.toInt = 60 + i.toInt := by rw [ex_19]; exact z_add rfl rfl (by omega) (by omega)
              refine lv_lconst (v := 0) hx hb dX12_row_74 (by decide) ?_
              refine va_last hx hb hK hP hD hS 3 2 rfl rfl (z_in (by omega) (by omega)) dX12_row_75 (fun H locs hP hD hS => ?_)
              have hP : va_P D vwCl [(mo, .inr (12, [.int 0, .ref m1, .ref m2, .ref m3, .ref m4, .ref m5, .int 0, .int 0, .int 0, .int 0, .int 0, .long 0, .int 0, .int 0, .int 0, .int (-1), .ref m16, .ref m17, .ref m18, .ref m19, .ref m20, .ref m21, .ref m22, .ref m23, .int 0, .ref m25, .ref m26, .ref m27, .ref m28, .ref m29, .int 0, .ref m31, .ref m32, .ref m33, .int 0, .int 0, .int 0, .ref m37, .ref m38, .ref m39, .ref m40, .long 0])), (m1, .inl (k 0, 4, .inl (upd fw 1 p1))), (m2, .inl (k 0, 4, .inl (upd fm 1 p2))), (m3, .inl (k 2, 240, .inr (.inl (vp_updL gn x_19.toNatClampNeg 0))))] H := hP
              have hD : va_D A [(mo, .inr (12, [.int 0, .ref m1, .ref m2, .ref m3, .ref m4, .ref m5, .int 0, .int 0, .int 0, .int 0, .int 0, .long 0, .int 0, .int 0, .int 0, .int (-1), .ref m16, .ref m17, .ref m18, .ref m19, .ref m20, .ref m21, .ref m22, .ref m23, .int 0, .ref m25, .ref m26, .ref m27, .ref m28, .ref m29, .int 0, .ref m31, .ref m32, .ref m33, .int 0, .int 0, .int 0, .ref m37, .ref m38, .ref m39, .ref m40, .long 0])), (m1, .inl (k 0, 4, .inl (upd fw 1 p1))), (m2, .inl (k 0, 4, .inl (upd fm 1 p2))), (m3, .inl (k 2, 240, .inr (.inl (vp_updL gn x_19.toNatClampNeg 0))))] := hD
              obtain ⟨x_20, ex_20⟩ : ∃ y : Int32, y = i + 1 := ⟨_, rfl⟩
              have zx_20 : x_20.toInt = i.toInt + 1 := by rw [ex_20]; exact z_add rfl rfl (by omega) (by omega)
              refine lv_iinc (v := x_20) (lv' := [(4, .int x_20), (0, .ref mo), (1, .int 1), (2, .int p1), (3, .int p2)]) hx hb dX12_row_76 hl (k := 0) rfl (by rw [ex_20]; rfl) (by decide) rfl (fun ls hl => ?_)
              refine lv_goto (tgt := 57) hx hb dX12_row_79 (by decide) ?_
              exact ih_15 _ _ _ _ (by omega) ⟨x_20, (vp_updL gn x_19.toNatClampNeg 0), rfl, (show 0 ≤ x_20.toInt from by omega), (show x_20.toInt ≤ p2.toInt from by omega), hP.sub (ws' := [(mo, .inr (12, [.int 0, .ref m1, .ref m2, .ref m3, .ref m4, .ref m5, .int 0, .int 0, .int 0, .int 0, .int 0, .long 0, .int 0, .int 0, .int 0, .int (-1), .ref m16, .ref m17, .ref m18, .ref m19, .ref m20, .ref m21, .ref m22, .ref m23, .int 0, .ref m25, .ref m26, .ref m27, .ref m28, .ref m29, .int 0, .ref m31, .ref m32, .ref m33, .int 0, .int 0, .int 0, .ref m37, .ref m38, .ref m39, .ref m40, .long 0])), (m1, .inl (k 0, 4, .inl (upd fw 1 p1))), (m2, .inl (k 0, 4, .inl (upd fm 1 p2))), (m3, .inl (k 2, 240, .inr (.inl (vp_updL gn x_19.toNatClampNeg 0))))]) [0, 1, 2, 3] rfl, hD.sub (ws' := [(mo, .inr (12, [.int 0, .ref m1, .ref m2, .ref m3, .ref m4, .ref m5, .int 0, .int 0, .int 0, .int 0, .int 0, .long 0, .int 0, .int 0, .int 0, .int (-1), .ref m16, .ref m17, .ref m18, .ref m19, .ref m20, .ref m21, .ref m22, .ref m23, .int 0, .ref m25, .ref m26, .ref m27, .ref m28, .ref m29, .int 0, .ref m31, .ref m32, .ref m33, .int 0, .int 0, .int 0, .ref m37, .ref m38, .ref m39, .ref m40, .long 0])), (m1, .inl (k 0, 4, .inl (upd fw 1 p1))), (m2, .inl (k 0, 4, .inl (upd fm 1 p2))), (m3, .inl (k 2, 240, .inr (.inl (vp_updL gn x_19.toNatClampNeg 0))))]) [0, 1, 2, 3] (by decide) rfl, hS, lv_sub hl [0, 1, 2, 3, 4] rfl⟩
          · skip
            refine lv_aload_n hx hb dX12_row_40 rfl (lv_at hl 0 rfl) ?_
            refine va_get (D := D) (ci := 12) (v := .ref m1) (C := RX12) (T := TX12) (N := 42) hx hb hts iT_X12 hown hK hP 0 rfl rfl 1 (by decide) (hts _ tw_6_54) (fun _ h9 => h9) rfl dX12_row_41 ?_
            refine lv_iload_n hx hb dX12_row_44 rfl (lv_at hl 1 rfl) ?_
            refine lv_iload_n hx hb dX12_row_45 rfl (lv_at hl 2 rfl) ?_
            refine va_iast hx hb hK hP hD hS 1 0 rfl rfl (z_in (by decide) (by decide)) dX12_row_46 (fun H locs hP hD hS => ?_)
            have hP : va_P D vwCl [(mo, .inr (12, [.int 0, .ref m1, .ref m2, .ref m3, .ref m4, .ref m5, .int 0, .int 0, .int 0, .int 0, .int 0, .long 0, .int 0, .int 0, .int 0, .int (-1), .ref m16, .ref m17, .ref m18, .ref m19, .ref m20, .ref m21, .ref m22, .ref m23, .int 0, .ref m25, .ref m26, .ref m27, .ref m28, .ref m29, .int 0, .ref m31, .ref m32, .ref m33, .int 0, .int 0, .int 0, .ref m37, .ref m38, .ref m39, .ref m40, .long 0])), (m1, .inl (k 0, 4, .inl (upd fw 2 p1))), (m2, .inl (k 0, 4, .inl fm)), (m3, .inl (k 2, 240, .inr (.inl fc)))] H := hP
            have hD : va_D A [(mo, .inr (12, [.int 0, .ref m1, .ref m2, .ref m3, .ref m4, .ref m5, .int 0, .int 0, .int 0, .int 0, .int 0, .long 0, .int 0, .int 0, .int 0, .int (-1), .ref m16, .ref m17, .ref m18, .ref m19, .ref m20, .ref m21, .ref m22, .ref m23, .int 0, .ref m25, .ref m26, .ref m27, .ref m28, .ref m29, .int 0, .ref m31, .ref m32, .ref m33, .int 0, .int 0, .int 0, .ref m37, .ref m38, .ref m39, .ref m40, .long 0])), (m1, .inl (k 0, 4, .inl (upd fw 2 p1))), (m2, .inl (k 0, 4, .inl fm)), (m3, .inl (k 2, 240, .inr (.inl fc)))] := hD
            refine lv_aload_n hx hb dX12_row_47 rfl (lv_at hl 0 rfl) ?_
            refine va_get (D := D) (ci := 12) (v := .ref m2) (C := RX12) (T := TX12) (N := 42) hx hb hts iT_X12 hown hK hP 0 rfl rfl 2 (by decide) (hts _ tw_6_55) (fun _ h9 => h9) rfl dX12_row_48 ?_
            refine lv_iload_n hx hb dX12_row_51 rfl (lv_at hl 1 rfl) ?_
            refine lv_iload_n hx hb dX12_row_52 rfl (lv_at hl 3 rfl) ?_
            refine va_iast hx hb hK hP hD hS 2 0 rfl rfl (z_in (by decide) (by decide)) dX12_row_53 (fun H locs hP hD hS => ?_)
            have hP : va_P D vwCl [(mo, .inr (12, [.int 0, .ref m1, .ref m2, .ref m3, .ref m4, .ref m5, .int 0, .int 0, .int 0, .int 0, .int 0, .long 0, .int 0, .int 0, .int 0, .int (-1), .ref m16, .ref m17, .ref m18, .ref m19, .ref m20, .ref m21, .ref m22, .ref m23, .int 0, .ref m25, .ref m26, .ref m27, .ref m28, .ref m29, .int 0, .ref m31, .ref m32, .ref m33, .int 0, .int 0, .int 0, .ref m37, .ref m38, .ref m39, .ref m40, .long 0])), (m1, .inl (k 0, 4, .inl (upd fw 2 p1))), (m2, .inl (k 0, 4, .inl (upd fm 2 p2))), (m3, .inl (k 2, 240, .inr (.inl fc)))] H := hP
            have hD : va_D A [(mo, .inr (12, [.int 0, .ref m1, .ref m2, .ref m3, .ref m4, .ref m5, .int 0, .int 0, .int 0, .int 0, .int 0, .long 0, .int 0, .int 0, .int 0, .int (-1), .ref m16, .ref m17, .ref m18, .ref m19, .ref m20, .ref m21, .ref m22, .ref m23, .int 0, .ref m25, .ref m26, .ref m27, .ref m28, .ref m29, .int 0, .ref m31, .ref m32, .ref m33, .int 0, .int 0, .int 0, .ref m37, .ref m38, .ref m39, .ref m40, .long 0])), (m1, .inl (k 0, 4, .inl (upd fw 2 p1))), (m2, .inl (k 0, 4, .inl (upd fm 2 p2))), (m3, .inl (k 2, 240, .inr (.inl fc)))] := hD
            refine lv_iconst (v := 0) hx hb dX12_row_54 (by decide) ?_
            refine lv_istore (lv' := [(4, .int 0), (0, .ref mo), (1, .int 2), (2, .int p1), (3, .int p2)]) hx hb dX12_row_55 hl (by decide) rfl (fun ls hl => ?_)
            refine loop_r (Wg := fun H locs ls => W p l e _ s m _ below meth c H locs _ _ _ (F0 m 57 ls [])) (fun n9 H locs ls => ∃ (i : Int32) (gn : Nat → Int64), n9 = (p2.toInt - i.toInt).toNat ∧ (0 ≤ i.toInt) ∧ (i.toInt ≤ p2.toInt) ∧ va_P D vwCl [(mo, .inr (12, [.int 0, .ref m1, .ref m2, .ref m3, .ref m4, .ref m5, .int 0, .int 0, .int 0, .int 0, .int 0, .long 0, .int 0, .int 0, .int 0, .int (-1), .ref m16, .ref m17, .ref m18, .ref m19, .ref m20, .ref m21, .ref m22, .ref m23, .int 0, .ref m25, .ref m26, .ref m27, .ref m28, .ref m29, .int 0, .ref m31, .ref m32, .ref m33, .int 0, .int 0, .int 0, .ref m37, .ref m38, .ref m39, .ref m40, .long 0])), (m1, .inl (k 0, 4, .inl (upd fw 2 p1))), (m2, .inl (k 0, 4, .inl (upd fm 2 p2))), (m3, .inl (k 2, 240, .inr (.inl gn)))] H ∧ va_D A [(mo, .inr (12, [.int 0, .ref m1, .ref m2, .ref m3, .ref m4, .ref m5, .int 0, .int 0, .int 0, .int 0, .int 0, .long 0, .int 0, .int 0, .int 0, .int (-1), .ref m16, .ref m17, .ref m18, .ref m19, .ref m20, .ref m21, .ref m22, .ref m23, .int 0, .ref m25, .ref m26, .ref m27, .ref m28, .ref m29, .int 0, .ref m31, .ref m32, .ref m33, .int 0, .int 0, .int 0, .ref m37, .ref m38, .ref m39, .ref m40, .long 0])), (m1, .inl (k 0, 4, .inl (upd fw 2 p1))), (m2, .inl (k 0, 4, .inl (upd fm 2 p2))), (m3, .inl (k 2, 240, .inr (.inl gn)))] ∧ va_S A s.heap H locs ∧ lv_has ls 5 [(4, .int i), (0, .ref mo), (1, .int 2), (2, .int p1), (3, .int p2)]) (fun n9 H locs ls hI ih_21 => ?_) _ _ _ _ ⟨0, fc, rfl, (show 0 ≤ 0 from by omega), (show 0 ≤ p2.toInt from by omega), hP.sub (ws' := [(mo, .inr (12, [.int 0, .ref m1, .ref m2, .ref m3, .ref m4, .ref m5, .int 0, .int 0, .int 0, .int 0, .int 0, .long 0, .int 0, .int 0, .int 0, .int (-1), .ref m16, .ref m17, .ref m18, .ref m19, .ref m20, .ref m21, .ref m22, .ref m23, .int 0, .ref m25, .ref m26, .ref m27, .ref m28, .ref m29, .int 0, .ref m31, .ref m32, .ref m33, .int 0, .int 0, .int 0, .ref m37, .ref m38, .ref m39, .ref m40, .long 0])), (m1, .inl (k 0, 4, .inl (upd fw 2 p1))), (m2, .inl (k 0, 4, .inl (upd fm 2 p2))), (m3, .inl (k 2, 240, .inr (.inl fc)))]) [0, 1, 2, 3] rfl, hD.sub (ws' := [(mo, .inr (12, [.int 0, .ref m1, .ref m2, .ref m3, .ref m4, .ref m5, .int 0, .int 0, .int 0, .int 0, .int 0, .long 0, .int 0, .int 0, .int 0, .int (-1), .ref m16, .ref m17, .ref m18, .ref m19, .ref m20, .ref m21, .ref m22, .ref m23, .int 0, .ref m25, .ref m26, .ref m27, .ref m28, .ref m29, .int 0, .ref m31, .ref m32, .ref m33, .int 0, .int 0, .int 0, .ref m37, .ref m38, .ref m39, .ref m40, .long 0])), (m1, .inl (k 0, 4, .inl (upd fw 2 p1))), (m2, .inl (k 0, 4, .inl (upd fm 2 p2))), (m3, .inl (k 2, 240, .inr (.inl fc)))]) [0, 1, 2, 3] (by decide) rfl, hS, lv_sub hl [0, 1, 2, 3, 4] rfl⟩
            clear hP hD hS hl
            obtain ⟨i, gn, en_22, hi1, hi2, hP, hD, hS, hl⟩ := hI
            refine lv_iload hx hb dX12_row_57 (lv_at hl 0 rfl) ?_
            refine lv_iload_n hx hb dX12_row_59 rfl (lv_at hl 4 rfl) ?_
            refine lv_icmp_ge (tgt := 82) hx hb dX12_row_60 (by decide) (fun h_23 => ?_) (fun h_23 => ?_)
            · skip
              have zh_23 : p2.toInt ≤ i.toInt := z_le h_23
              refine lv_iconst (v := 0) hx hb dX12_row_82 (by decide) ?_
              have hP9 := hP.sub (ws' := []) [] rfl
              have hD9 := hD.sub (ws' := []) [] (by decide) rfl
              exact W.iret (v := 0) hx hb hr (fun tZ ht hW => ⟨⟨0, (), rfl, (show 0 = sp_row 2 p1 p2 from by unfold sp_row; first | (rw [if_neg (by omega)]) | (rw [if_pos (by omega), if_neg (by omega)]) | (rw [if_pos (by omega), if_pos (by omega)])), by rw [ht]; exact hP9, va_K.moved hW.alike hK, hD9⟩, hS.F ht⟩) hS.2.2 dX12_row_83
            · skip
              have zh_23 : i.toInt < p2.toInt := z_nle h_23
              refine lv_aload_n hx hb dX12_row_63 rfl (lv_at hl 1 rfl) ?_
              refine va_get (D := D) (ci := 12) (v := .ref m3) (C := RX12) (T := TX12) (N := 42) hx hb hts iT_X12 hown hK hP 0 rfl rfl 3 (by decide) (hts _ tw_6_56) (fun _ h9 => h9) rfl dX12_row_64 ?_
              refine lv_bipush (v := 60) hx hb dX12_row_67 (by decide) ?_
              refine lv_iload_n hx hb dX12_row_69 rfl (lv_at hl 2 rfl) ?_
              refine lv_imul hx hb dX12_row_70 ?_
              refine lv_topi (fun x_24 ex_24 => ?_)
              obtain rfl : x_24 = 120 := ex_24.trans (by decide)
              refine lv_iload hx hb dX12_row_71 (lv_at hl 0 rfl) ?_
              refine lv_iadd hx hb dX12_row_73 ?_
              refine lv_topi (fun x_25 ex_25 => ?_)
              have zx_25 : x_25.toInt = 120 + i.toInt := by rw [ex_25]; exact z_add rfl rfl (by omega) (by omega)
              refine lv_lconst (v := 0) hx hb dX12_row_74 (by decide) ?_
              refine va_last hx hb hK hP hD hS 3 2 rfl rfl (z_in (by omega) (by omega)) dX12_row_75 (fun H locs hP hD hS => ?_)
              have hP : va_P D vwCl [(mo, .inr (12, [.int 0, .ref m1, .ref m2, .ref m3, .ref m4, .ref m5, .int 0, .int 0, .int 0, .int 0, .int 0, .long 0, .int 0, .int 0, .int 0, .int (-1), .ref m16, .ref m17, .ref m18, .ref m19, .ref m20, .ref m21, .ref m22, .ref m23, .int 0, .ref m25, .ref m26, .ref m27, .ref m28, .ref m29, .int 0, .ref m31, .ref m32, .ref m33, .int 0, .int 0, .int 0, .ref m37, .ref m38, .ref m39, .ref m40, .long 0])), (m1, .inl (k 0, 4, .inl (upd fw 2 p1))), (m2, .inl (k 0, 4, .inl (upd fm 2 p2))), (m3, .inl (k 2, 240, .inr (.inl (vp_updL gn x_25.toNatClampNeg 0))))] H := hP
              have hD : va_D A [(mo, .inr (12, [.int 0, .ref m1, .ref m2, .ref m3, .ref m4, .ref m5, .int 0, .int 0, .int 0, .int 0, .int 0, .long 0, .int 0, .int 0, .int 0, .int (-1), .ref m16, .ref m17, .ref m18, .ref m19, .ref m20, .ref m21, .ref m22, .ref m23, .int 0, .ref m25, .ref m26, .ref m27, .ref m28, .ref m29, .int 0, .ref m31, .ref m32, .ref m33, .int 0, .int 0, .int 0, .ref m37, .ref m38, .ref m39, .ref m40, .long 0])), (m1, .inl (k 0, 4, .inl (upd fw 2 p1))), (m2, .inl (k 0, 4, .inl (upd fm 2 p2))), (m3, .inl (k 2, 240, .inr (.inl (vp_updL gn x_25.toNatClampNeg 0))))] := hD
              obtain ⟨x_26, ex_26⟩ : ∃ y : Int32, y = i + 1 := ⟨_, rfl⟩
              have zx_26 : x_26.toInt = i.toInt + 1 := by rw [ex_26]; exact z_add rfl rfl (by omega) (by omega)
              refine lv_iinc (v := x_26) (lv' := [(4, .int x_26), (0, .ref mo), (1, .int 2), (2, .int p1), (3, .int p2)]) hx hb dX12_row_76 hl (k := 0) rfl (by rw [ex_26]; rfl) (by decide) rfl (fun ls hl => ?_)
              refine lv_goto (tgt := 57) hx hb dX12_row_79 (by decide) ?_
              exact ih_21 _ _ _ _ (by omega) ⟨x_26, (vp_updL gn x_25.toNatClampNeg 0), rfl, (show 0 ≤ x_26.toInt from by omega), (show x_26.toInt ≤ p2.toInt from by omega), hP.sub (ws' := [(mo, .inr (12, [.int 0, .ref m1, .ref m2, .ref m3, .ref m4, .ref m5, .int 0, .int 0, .int 0, .int 0, .int 0, .long 0, .int 0, .int 0, .int 0, .int (-1), .ref m16, .ref m17, .ref m18, .ref m19, .ref m20, .ref m21, .ref m22, .ref m23, .int 0, .ref m25, .ref m26, .ref m27, .ref m28, .ref m29, .int 0, .ref m31, .ref m32, .ref m33, .int 0, .int 0, .int 0, .ref m37, .ref m38, .ref m39, .ref m40, .long 0])), (m1, .inl (k 0, 4, .inl (upd fw 2 p1))), (m2, .inl (k 0, 4, .inl (upd fm 2 p2))), (m3, .inl (k 2, 240, .inr (.inl (vp_updL gn x_25.toNatClampNeg 0))))]) [0, 1, 2, 3] rfl, hD.sub (ws' := [(mo, .inr (12, [.int 0, .ref m1, .ref m2, .ref m3, .ref m4, .ref m5, .int 0, .int 0, .int 0, .int 0, .int 0, .long 0, .int 0, .int 0, .int 0, .int (-1), .ref m16, .ref m17, .ref m18, .ref m19, .ref m20, .ref m21, .ref m22, .ref m23, .int 0, .ref m25, .ref m26, .ref m27, .ref m28, .ref m29, .int 0, .ref m31, .ref m32, .ref m33, .int 0, .int 0, .int 0, .ref m37, .ref m38, .ref m39, .ref m40, .long 0])), (m1, .inl (k 0, 4, .inl (upd fw 2 p1))), (m2, .inl (k 0, 4, .inl (upd fm 2 p2))), (m3, .inl (k 2, 240, .inr (.inl (vp_updL gn x_25.toNatClampNeg 0))))]) [0, 1, 2, 3] (by decide) rfl, hS, lv_sub hl [0, 1, 2, 3, 4] rfl⟩
          · skip
            refine lv_aload_n hx hb dX12_row_40 rfl (lv_at hl 0 rfl) ?_
            refine va_get (D := D) (ci := 12) (v := .ref m1) (C := RX12) (T := TX12) (N := 42) hx hb hts iT_X12 hown hK hP 0 rfl rfl 1 (by decide) (hts _ tw_6_54) (fun _ h9 => h9) rfl dX12_row_41 ?_
            refine lv_iload_n hx hb dX12_row_44 rfl (lv_at hl 1 rfl) ?_
            refine lv_iload_n hx hb dX12_row_45 rfl (lv_at hl 2 rfl) ?_
            refine va_iast hx hb hK hP hD hS 1 0 rfl rfl (z_in (by decide) (by decide)) dX12_row_46 (fun H locs hP hD hS => ?_)
            have hP : va_P D vwCl [(mo, .inr (12, [.int 0, .ref m1, .ref m2, .ref m3, .ref m4, .ref m5, .int 0, .int 0, .int 0, .int 0, .int 0, .long 0, .int 0, .int 0, .int 0, .int (-1), .ref m16, .ref m17, .ref m18, .ref m19, .ref m20, .ref m21, .ref m22, .ref m23, .int 0, .ref m25, .ref m26, .ref m27, .ref m28, .ref m29, .int 0, .ref m31, .ref m32, .ref m33, .int 0, .int 0, .int 0, .ref m37, .ref m38, .ref m39, .ref m40, .long 0])), (m1, .inl (k 0, 4, .inl (upd fw 3 p1))), (m2, .inl (k 0, 4, .inl fm)), (m3, .inl (k 2, 240, .inr (.inl fc)))] H := hP
            have hD : va_D A [(mo, .inr (12, [.int 0, .ref m1, .ref m2, .ref m3, .ref m4, .ref m5, .int 0, .int 0, .int 0, .int 0, .int 0, .long 0, .int 0, .int 0, .int 0, .int (-1), .ref m16, .ref m17, .ref m18, .ref m19, .ref m20, .ref m21, .ref m22, .ref m23, .int 0, .ref m25, .ref m26, .ref m27, .ref m28, .ref m29, .int 0, .ref m31, .ref m32, .ref m33, .int 0, .int 0, .int 0, .ref m37, .ref m38, .ref m39, .ref m40, .long 0])), (m1, .inl (k 0, 4, .inl (upd fw 3 p1))), (m2, .inl (k 0, 4, .inl fm)), (m3, .inl (k 2, 240, .inr (.inl fc)))] := hD
            refine lv_aload_n hx hb dX12_row_47 rfl (lv_at hl 0 rfl) ?_
            refine va_get (D := D) (ci := 12) (v := .ref m2) (C := RX12) (T := TX12) (N := 42) hx hb hts iT_X12 hown hK hP 0 rfl rfl 2 (by decide) (hts _ tw_6_55) (fun _ h9 => h9) rfl dX12_row_48 ?_
            refine lv_iload_n hx hb dX12_row_51 rfl (lv_at hl 1 rfl) ?_
            refine lv_iload_n hx hb dX12_row_52 rfl (lv_at hl 3 rfl) ?_
            refine va_iast hx hb hK hP hD hS 2 0 rfl rfl (z_in (by decide) (by decide)) dX12_row_53 (fun H locs hP hD hS => ?_)
            have hP : va_P D vwCl [(mo, .inr (12, [.int 0, .ref m1, .ref m2, .ref m3, .ref m4, .ref m5, .int 0, .int 0, .int 0, .int 0, .int 0, .long 0, .int 0, .int 0, .int 0, .int (-1), .ref m16, .ref m17, .ref m18, .ref m19, .ref m20, .ref m21, .ref m22, .ref m23, .int 0, .ref m25, .ref m26, .ref m27, .ref m28, .ref m29, .int 0, .ref m31, .ref m32, .ref m33, .int 0, .int 0, .int 0, .ref m37, .ref m38, .ref m39, .ref m40, .long 0])), (m1, .inl (k 0, 4, .inl (upd fw 3 p1))), (m2, .inl (k 0, 4, .inl (upd fm 3 p2))), (m3, .inl (k 2, 240, .inr (.inl fc)))] H := hP
            have hD : va_D A [(mo, .inr (12, [.int 0, .ref m1, .ref m2, .ref m3, .ref m4, .ref m5, .int 0, .int 0, .int 0, .int 0, .int 0, .long 0, .int 0, .int 0, .int 0, .int (-1), .ref m16, .ref m17, .ref m18, .ref m19, .ref m20, .ref m21, .ref m22, .ref m23, .int 0, .ref m25, .ref m26, .ref m27, .ref m28, .ref m29, .int 0, .ref m31, .ref m32, .ref m33, .int 0, .int 0, .int 0, .ref m37, .ref m38, .ref m39, .ref m40, .long 0])), (m1, .inl (k 0, 4, .inl (upd fw 3 p1))), (m2, .inl (k 0, 4, .inl (upd fm 3 p2))), (m3, .inl (k 2, 240, .inr (.inl fc)))] := hD
            refine lv_iconst (v := 0) hx hb dX12_row_54 (by decide) ?_
            refine lv_istore (lv' := [(4, .int 0), (0, .ref mo), (1, .int 3), (2, .int p1), (3, .int p2)]) hx hb dX12_row_55 hl (by decide) rfl (fun ls hl => ?_)
            refine loop_r (Wg := fun H locs ls => W p l e _ s m _ below meth c H locs _ _ _ (F0 m 57 ls [])) (fun n9 H locs ls => ∃ (i : Int32) (gn : Nat → Int64), n9 = (p2.toInt - i.toInt).toNat ∧ (0 ≤ i.toInt) ∧ (i.toInt ≤ p2.toInt) ∧ va_P D vwCl [(mo, .inr (12, [.int 0, .ref m1, .ref m2, .ref m3, .ref m4, .ref m5, .int 0, .int 0, .int 0, .int 0, .int 0, .long 0, .int 0, .int 0, .int 0, .int (-1), .ref m16, .ref m17, .ref m18, .ref m19, .ref m20, .ref m21, .ref m22, .ref m23, .int 0, .ref m25, .ref m26, .ref m27, .ref m28, .ref m29, .int 0, .ref m31, .ref m32, .ref m33, .int 0, .int 0, .int 0, .ref m37, .ref m38, .ref m39, .ref m40, .long 0])), (m1, .inl (k 0, 4, .inl (upd fw 3 p1))), (m2, .inl (k 0, 4, .inl (upd fm 3 p2))), (m3, .inl (k 2, 240, .inr (.inl gn)))] H ∧ va_D A [(mo, .inr (12, [.int 0, .ref m1, .ref m2, .ref m3, .ref m4, .ref m5, .int 0, .int 0, .int 0, .int 0, .int 0, .long 0, .int 0, .int 0, .int 0, .int (-1), .ref m16, .ref m17, .ref m18, .ref m19, .ref m20, .ref m21, .ref m22, .ref m23, .int 0, .ref m25, .ref m26, .ref m27, .ref m28, .ref m29, .int 0, .ref m31, .ref m32, .ref m33, .int 0, .int 0, .int 0, .ref m37, .ref m38, .ref m39, .ref m40, .long 0])), (m1, .inl (k 0, 4, .inl (upd fw 3 p1))), (m2, .inl (k 0, 4, .inl (upd fm 3 p2))), (m3, .inl (k 2, 240, .inr (.inl gn)))] ∧ va_S A s.heap H locs ∧ lv_has ls 5 [(4, .int i), (0, .ref mo), (1, .int 3), (2, .int p1), (3, .int p2)]) (fun n9 H locs ls hI ih_27 => ?_) _ _ _ _ ⟨0, fc, rfl, (show 0 ≤ 0 from by omega), (show 0 ≤ p2.toInt from by omega), hP.sub (ws' := [(mo, .inr (12, [.int 0, .ref m1, .ref m2, .ref m3, .ref m4, .ref m5, .int 0, .int 0, .int 0, .int 0, .int 0, .long 0, .int 0, .int 0, .int 0, .int (-1), .ref m16, .ref m17, .ref m18, .ref m19, .ref m20, .ref m21, .ref m22, .ref m23, .int 0, .ref m25, .ref m26, .ref m27, .ref m28, .ref m29, .int 0, .ref m31, .ref m32, .ref m33, .int 0, .int 0, .int 0, .ref m37, .ref m38, .ref m39, .ref m40, .long 0])), (m1, .inl (k 0, 4, .inl (upd fw 3 p1))), (m2, .inl (k 0, 4, .inl (upd fm 3 p2))), (m3, .inl (k 2, 240, .inr (.inl fc)))]) [0, 1, 2, 3] rfl, hD.sub (ws' := [(mo, .inr (12, [.int 0, .ref m1, .ref m2, .ref m3, .ref m4, .ref m5, .int 0, .int 0, .int 0, .int 0, .int 0, .long 0, .int 0, .int 0, .int 0, .int (-1), .ref m16, .ref m17, .ref m18, .ref m19, .ref m20, .ref m21, .ref m22, .ref m23, .int 0, .ref m25, .ref m26, .ref m27, .ref m28, .ref m29, .int 0, .ref m31, .ref m32, .ref m33, .int 0, .int 0, .int 0, .ref m37, .ref m38, .ref m39, .ref m40, .long 0])), (m1, .inl (k 0, 4, .inl (upd fw 3 p1))), (m2, .inl (k 0, 4, .inl (upd fm 3 p2))), (m3, .inl (k 2, 240, .inr (.inl fc)))]) [0, 1, 2, 3] (by decide) rfl, hS, lv_sub hl [0, 1, 2, 3, 4] rfl⟩
            clear hP hD hS hl
            obtain ⟨i, gn, en_28, hi1, hi2, hP, hD, hS, hl⟩ := hI
            refine lv_iload hx hb dX12_row_57 (lv_at hl 0 rfl) ?_
            refine lv_iload_n hx hb dX12_row_59 rfl (lv_at hl 4 rfl) ?_
            refine lv_icmp_ge (tgt := 82) hx hb dX12_row_60 (by decide) (fun h_29 => ?_) (fun h_29 => ?_)
            · skip
              have zh_29 : p2.toInt ≤ i.toInt := z_le h_29
              refine lv_iconst (v := 0) hx hb dX12_row_82 (by decide) ?_
              have hP9 := hP.sub (ws' := []) [] rfl
              have hD9 := hD.sub (ws' := []) [] (by decide) rfl
              exact W.iret (v := 0) hx hb hr (fun tZ ht hW => ⟨⟨0, (), rfl, (show 0 = sp_row 3 p1 p2 from by unfold sp_row; first | (rw [if_neg (by omega)]) | (rw [if_pos (by omega), if_neg (by omega)]) | (rw [if_pos (by omega), if_pos (by omega)])), by rw [ht]; exact hP9, va_K.moved hW.alike hK, hD9⟩, hS.F ht⟩) hS.2.2 dX12_row_83
            · skip
              have zh_29 : i.toInt < p2.toInt := z_nle h_29
              refine lv_aload_n hx hb dX12_row_63 rfl (lv_at hl 1 rfl) ?_
              refine va_get (D := D) (ci := 12) (v := .ref m3) (C := RX12) (T := TX12) (N := 42) hx hb hts iT_X12 hown hK hP 0 rfl rfl 3 (by decide) (hts _ tw_6_56) (fun _ h9 => h9) rfl dX12_row_64 ?_
              refine lv_bipush (v := 60) hx hb dX12_row_67 (by decide) ?_
              refine lv_iload_n hx hb dX12_row_69 rfl (lv_at hl 2 rfl) ?_
              refine lv_imul hx hb dX12_row_70 ?_
              refine lv_topi (fun x_30 ex_30 => ?_)
              obtain rfl : x_30 = 180 := ex_30.trans (by decide)
              refine lv_iload hx hb dX12_row_71 (lv_at hl 0 rfl) ?_
              refine lv_iadd hx hb dX12_row_73 ?_
              refine lv_topi (fun x_31 ex_31 => ?_)
              have zx_31 : x_31.toInt = 180 + i.toInt := by rw [ex_31]; exact z_add rfl rfl (by omega) (by omega)
              refine lv_lconst (v := 0) hx hb dX12_row_74 (by decide) ?_
              refine va_last hx hb hK hP hD hS 3 2 rfl rfl (z_in (by omega) (by omega)) dX12_row_75 (fun H locs hP hD hS => ?_)
              have hP : va_P D vwCl [(mo, .inr (12, [.int 0, .ref m1, .ref m2, .ref m3, .ref m4, .ref m5, .int 0, .int 0, .int 0, .int 0, .int 0, .long 0, .int 0, .int 0, .int 0, .int (-1), .ref m16, .ref m17, .ref m18, .ref m19, .ref m20, .ref m21, .ref m22, .ref m23, .int 0, .ref m25, .ref m26, .ref m27, .ref m28, .ref m29, .int 0, .ref m31, .ref m32, .ref m33, .int 0, .int 0, .int 0, .ref m37, .ref m38, .ref m39, .ref m40, .long 0])), (m1, .inl (k 0, 4, .inl (upd fw 3 p1))), (m2, .inl (k 0, 4, .inl (upd fm 3 p2))), (m3, .inl (k 2, 240, .inr (.inl (vp_updL gn x_31.toNatClampNeg 0))))] H := hP
              have hD : va_D A [(mo, .inr (12, [.int 0, .ref m1, .ref m2, .ref m3, .ref m4, .ref m5, .int 0, .int 0, .int 0, .int 0, .int 0, .long 0, .int 0, .int 0, .int 0, .int (-1), .ref m16, .ref m17, .ref m18, .ref m19, .ref m20, .ref m21, .ref m22, .ref m23, .int 0, .ref m25, .ref m26, .ref m27, .ref m28, .ref m29, .int 0, .ref m31, .ref m32, .ref m33, .int 0, .int 0, .int 0, .ref m37, .ref m38, .ref m39, .ref m40, .long 0])), (m1, .inl (k 0, 4, .inl (upd fw 3 p1))), (m2, .inl (k 0, 4, .inl (upd fm 3 p2))), (m3, .inl (k 2, 240, .inr (.inl (vp_updL gn x_31.toNatClampNeg 0))))] := hD
              obtain ⟨x_32, ex_32⟩ : ∃ y : Int32, y = i + 1 := ⟨_, rfl⟩
              have zx_32 : x_32.toInt = i.toInt + 1 := by rw [ex_32]; exact z_add rfl rfl (by omega) (by omega)
              refine lv_iinc (v := x_32) (lv' := [(4, .int x_32), (0, .ref mo), (1, .int 3), (2, .int p1), (3, .int p2)]) hx hb dX12_row_76 hl (k := 0) rfl (by rw [ex_32]; rfl) (by decide) rfl (fun ls hl => ?_)
              refine lv_goto (tgt := 57) hx hb dX12_row_79 (by decide) ?_
              exact ih_27 _ _ _ _ (by omega) ⟨x_32, (vp_updL gn x_31.toNatClampNeg 0), rfl, (show 0 ≤ x_32.toInt from by omega), (show x_32.toInt ≤ p2.toInt from by omega), hP.sub (ws' := [(mo, .inr (12, [.int 0, .ref m1, .ref m2, .ref m3, .ref m4, .ref m5, .int 0, .int 0, .int 0, .int 0, .int 0, .long 0, .int 0, .int 0, .int 0, .int (-1), .ref m16, .ref m17, .ref m18, .ref m19, .ref m20, .ref m21, .ref m22, .ref m23, .int 0, .ref m25, .ref m26, .ref m27, .ref m28, .ref m29, .int 0, .ref m31, .ref m32, .ref m33, .int 0, .int 0, .int 0, .ref m37, .ref m38, .ref m39, .ref m40, .long 0])), (m1, .inl (k 0, 4, .inl (upd fw 3 p1))), (m2, .inl (k 0, 4, .inl (upd fm 3 p2))), (m3, .inl (k 2, 240, .inr (.inl (vp_updL gn x_31.toNatClampNeg 0))))]) [0, 1, 2, 3] rfl, hD.sub (ws' := [(mo, .inr (12, [.int 0, .ref m1, .ref m2, .ref m3, .ref m4, .ref m5, .int 0, .int 0, .int 0, .int 0, .int 0, .long 0, .int 0, .int 0, .int 0, .int (-1), .ref m16, .ref m17, .ref m18, .ref m19, .ref m20, .ref m21, .ref m22, .ref m23, .int 0, .ref m25, .ref m26, .ref m27, .ref m28, .ref m29, .int 0, .ref m31, .ref m32, .ref m33, .int 0, .int 0, .int 0, .ref m37, .ref m38, .ref m39, .ref m40, .long 0])), (m1, .inl (k 0, 4, .inl (upd fw 3 p1))), (m2, .inl (k 0, 4, .inl (upd fm 3 p2))), (m3, .inl (k 2, 240, .inr (.inl (vp_updL gn x_31.toNatClampNeg 0))))]) [0, 1, 2, 3] (by decide) rfl, hS, lv_sub hl [0, 1, 2, 3, 4] rfl⟩
        · skip
          have zh_8 : p2.toInt < 0 := z_nle h_8
          refine lv_bipush (v := (-3)) hx hb dX12_row_37 (by decide) ?_
          have hP9 := hP.sub (ws' := []) [] rfl
          have hD9 := hD.sub (ws' := []) [] (by decide) rfl
          exact W.iret (v := (-3)) hx hb hr (fun tZ ht hW => ⟨⟨(-3), (), rfl, (show (-3) = sp_row p0 p1 p2 from by unfold sp_row; first | (rw [if_neg (by omega)]) | (rw [if_pos (by omega), if_neg (by omega)]) | (rw [if_pos (by omega), if_pos (by omega)])), by rw [ht]; exact hP9, va_K.moved hW.alike hK, hD9⟩, hS.F ht⟩) hS.2.2 dX12_row_39
      · skip
        have zh_7 : 60 < p2.toInt := z_nle h_7
        refine lv_bipush (v := (-2)) hx hb dX12_row_30 (by decide) ?_
        have hP9 := hP.sub (ws' := []) [] rfl
        have hD9 := hD.sub (ws' := []) [] (by decide) rfl
        exact W.iret (v := (-2)) hx hb hr (fun tZ ht hW => ⟨⟨(-2), (), rfl, (show (-2) = sp_row p0 p1 p2 from by unfold sp_row; first | (rw [if_neg (by omega)]) | (rw [if_pos (by omega), if_neg (by omega)]) | (rw [if_pos (by omega), if_pos (by omega)])), by rw [ht]; exact hP9, va_K.moved hW.alike hK, hD9⟩, hS.F ht⟩) hS.2.2 dX12_row_32
set_option maxHeartbeats 4000000 in
set_option maxRecDepth 100000 in
theorem c_X12_write (l : Launch) (D : va_G) (k : Nat → ClassId) (mo : Nat) (m1 : Nat) (m2 : Nat) (m3 : Nat) (m4 : Nat) (m5 : Nat) (m16 : Nat) (m17 : Nat) (m18 : Nat) (m19 : Nat) (m20 : Nat) (m21 : Nat) (m22 : Nat) (m23 : Nat) (m25 : Nat) (m26 : Nat) (m27 : Nat) (m28 : Nat) (m29 : Nat) (m31 : Nat) (m32 : Nat) (m33 : Nat) (m37 : Nat) (m38 : Nat) (m39 : Nat) (m40 : Nat) (fw : Nat → Int32) (p0 : Int32) (p1 : Int32) (p2 : Int64) (sz : Nat) (hfw : ∀ j, j < 4 → fw j = -1) : Met l yX12_write (ww yX12_write cX12_write 5 (some .int)) ({ frames := 2, cells := 0, slots := 0, locals := 45 }) (Pre0 D k [(mo, .inr (12, [.int 0, .ref m1, .ref m2, .ref m3, .ref m4, .ref m5, .int 0, .int 0, .int 0, .int 0, .int 0, .long 0, .int 0, .int 0, .int 0, .int (-1), .ref m16, .ref m17, .ref m18, .ref m19, .ref m20, .ref m21, .ref m22, .ref m23, .int 0, .ref m25, .ref m26, .ref m27, .ref m28, .ref m29, .int 0, .ref m31, .ref m32, .ref m33, .int 0, .int 0, .int 0, .ref m37, .ref m38, .ref m39, .ref m40, .long 0])), (m1, .inl (k 0, 4, .inl fw))] sz [.ref mo, .int p0, .int p1, .long p2]) (va_Qi (fun (r : Int32) (_ : Unit) => r = sp_write p0) (fun (_ : Unit) tZ => Bw D k (va_A [(mo, .inr (12, [.int 0, .ref m1, .ref m2, .ref m3, .ref m4, .ref m5, .int 0, .int 0, .int 0, .int 0, .int 0, .long 0, .int 0, .int 0, .int 0, .int (-1), .ref m16, .ref m17, .ref m18, .ref m19, .ref m20, .ref m21, .ref m22, .ref m23, .int 0, .ref m25, .ref m26, .ref m27, .ref m28, .ref m29, .int 0, .ref m31, .ref m32, .ref m33, .int 0, .int 0, .int 0, .ref m37, .ref m38, .ref m39, .ref m40, .long 0])), (m1, .inl (k 0, 4, .inl fw))] sz) [(mo, .inr (12, [.int 0, .ref m1, .ref m2, .ref m3, .ref m4, .ref m5, .int 0, .int 0, .int 0, .int 0, .int 0, .long 0, .int 0, .int 0, .int 0, .int (-1), .ref m16, .ref m17, .ref m18, .ref m19, .ref m20, .ref m21, .ref m22, .ref m23, .int 0, .ref m25, .ref m26, .ref m27, .ref m28, .ref m29, .int 0, .ref m31, .ref m32, .ref m33, .int 0, .int 0, .int 0, .ref m37, .ref m38, .ref m39, .ref m40, .long 0])), (m1, .inl (k 0, 4, .inl fw))] tZ) (va_A [(mo, .inr (12, [.int 0, .ref m1, .ref m2, .ref m3, .ref m4, .ref m5, .int 0, .int 0, .int 0, .int 0, .int 0, .long 0, .int 0, .int 0, .int 0, .int (-1), .ref m16, .ref m17, .ref m18, .ref m19, .ref m20, .ref m21, .ref m22, .ref m23, .int 0, .ref m25, .ref m26, .ref m27, .ref m28, .ref m29, .int 0, .ref m31, .ref m32, .ref m33, .int 0, .int 0, .int 0, .ref m37, .ref m38, .ref m39, .ref m40, .long 0])), (m1, .inl (k 0, 4, .inl fw))] sz)) 0 0 (va_A [(mo, .inr (12, [.int 0, .ref m1, .ref m2, .ref m3, .ref m4, .ref m5, .int 0, .int 0, .int 0, .int 0, .int 0, .long 0, .int 0, .int 0, .int 0, .int (-1), .ref m16, .ref m17, .ref m18, .ref m19, .ref m20, .ref m21, .ref m22, .ref m23, .int 0, .ref m25, .ref m26, .ref m27, .ref m28, .ref m29, .int 0, .ref m31, .ref m32, .ref m33, .int 0, .int 0, .int 0, .ref m37, .ref m38, .ref m39, .ref m40, .long 0])), (m1, .inl (k 0, 4, .inl fw))] sz) := by
  refine Met.ofW (cc := cX12_write) (maxL := 5) (ret := (some .int)) (by decide +kernel) rfl ?_
  intro p e s m args below meth c s₁ B hml hv
  obtain ⟨rfl, hsz, hP, hK, hD0, hN⟩ := hv
  have hx := B.exec
  have hb := B.bytes
  have hr := B.returns
  have hts : ∀ w ∈ TT, w.before _ s = true := fun w h => atoms_spec (ws := ww yX12_write cX12_write 5 (some .int)) B.pre w (List.mem_cons_of_mem _ h)
  have hown : s.vm.findClass RX12 = some m.cls := findClass_of_methodNamed B.named
  have hlocks := B.notSynchronized
  subst hsz
  have hD := hD0.self (sz := s.heap.size)
  generalize hAe : va_A [(mo, .inr (12, [.int 0, .ref m1, .ref m2, .ref m3, .ref m4, .ref m5, .int 0, .int 0, .int 0, .int 0, .int 0, .long 0, .int 0, .int 0, .int 0, .int (-1), .ref m16, .ref m17, .ref m18, .ref m19, .ref m20, .ref m21, .ref m22, .ref m23, .int 0, .ref m25, .ref m26, .ref m27, .ref m28, .ref m29, .int 0, .ref m31, .ref m32, .ref m33, .int 0, .int 0, .int 0, .ref m37, .ref m38, .ref m39, .ref m40, .long 0])), (m1, .inl (k 0, 4, .inl fw))] s.heap.size = A at hD ⊢
  have hA : ∀ q : Nat, s.heap.size ≤ q → A q := fun q h => by rw [← hAe]; exact Or.inr h
  have hS : va_S A s.heap s.heap [] := va_S.rf
  have hl := lv_entry ([.ref mo, .int p0, .int p1, .long p2]) (n := 5) (Nat.le_of_ble_eq_true rfl)
  rw [lg_entry_eq]
  generalize (lg_sl ([.ref mo, .int p0, .int p1, .long p2]) ++ List.replicate (5 - (lg_sl ([.ref mo, .int p0, .int p1, .long p2])).length) Slot.unset).toArray = ls at hl ⊢
  have hl : lv_has ls 5 [(0, .ref mo), (1, .int p0), (2, .int p1), (3, .long p2)] := hl
  refine lv_aload_n hx hb dX12_write_0 rfl (lv_at hl 0 rfl) ?_
  refine lv_iconst (v := 0) hx hb dX12_write_1 (by decide) ?_
  refine va_put (D := D) (ci := 12) (v := .int 0) (ty := tyX12 0) (C := RX12) (T := TX12) (N := 42) hx hb hts iT_X12 tyX12 tyX12_ok nmX12 hown hK hP hD hS 0 rfl rfl 0 (by decide) (hts _ tw_6_53) (fun _ h9 => h9) rfl (tyX12_ok 0 (by decide)) rfl rfl (Nat.le_of_ble_eq_true rfl) dX12_write_2 (fun H locs hP hD hS => ?_)
  have hP : va_P D vwCl [(mo, .inr (12, [.int 0, .ref m1, .ref m2, .ref m3, .ref m4, .ref m5, .int 0, .int 0, .int 0, .int 0, .int 0, .long 0, .int 0, .int 0, .int 0, .int (-1), .ref m16, .ref m17, .ref m18, .ref m19, .ref m20, .ref m21, .ref m22, .ref m23, .int 0, .ref m25, .ref m26, .ref m27, .ref m28, .ref m29, .int 0, .ref m31, .ref m32, .ref m33, .int 0, .int 0, .int 0, .ref m37, .ref m38, .ref m39, .ref m40, .long 0])), (m1, .inl (k 0, 4, .inl fw))] H := hP
  have hD : va_D A [(mo, .inr (12, [.int 0, .ref m1, .ref m2, .ref m3, .ref m4, .ref m5, .int 0, .int 0, .int 0, .int 0, .int 0, .long 0, .int 0, .int 0, .int 0, .int (-1), .ref m16, .ref m17, .ref m18, .ref m19, .ref m20, .ref m21, .ref m22, .ref m23, .int 0, .ref m25, .ref m26, .ref m27, .ref m28, .ref m29, .int 0, .ref m31, .ref m32, .ref m33, .int 0, .int 0, .int 0, .ref m37, .ref m38, .ref m39, .ref m40, .long 0])), (m1, .inl (k 0, 4, .inl fw))] := hD
  refine lv_iload_n hx hb dX12_write_5 rfl (lv_at hl 1 rfl) ?_
  have hPc := hP.sub (ws' := []) [] rfl
  have hDc := hD.sub (ws' := []) [] (by decide) rfl
  have hFc := va_free (wc := []) hD hS hA [] rfl
  refine va_calli (va_runS (As := [.int p0]) (rest := []) ⟨hx, hb, hml, hown, hts⟩ (c_X12_isSlot l D k p0 H.size) (va_cwS 1 hts (gS tw_6_184 tw_6_185 tw_1_13 tw_6_186) rfl rfl rfl hdS_X12_isSlot ⟨Nat.le_of_ble_eq_true rfl, Nat.le_of_ble_eq_true rfl⟩) (cz_S hK hPc hDc hN [.int p0]) rfl rfl hl.1 rfl (lv_room (Nat.le_of_ble_eq_true rfl)) dX12_write_6 ⟨Nat.le_of_ble_eq_true rfl, Nat.le_of_ble_eq_true rfl⟩) hS (fun q _ h => hFc q h) hFc (fun r_1 uZ tZ H1 locs ht hvm hw hB hz1 hk1 hS => ?_)
  obtain ⟨hP1, hK1, hD1⟩ := hB
  rw [ht] at hP1
  obtain ⟨hP, hD⟩ := va_join (wr := [(mo, .inr (12, [.int 0, .ref m1, .ref m2, .ref m3, .ref m4, .ref m5, .int 0, .int 0, .int 0, .int 0, .int 0, .long 0, .int 0, .int 0, .int 0, .int (-1), .ref m16, .ref m17, .ref m18, .ref m19, .ref m20, .ref m21, .ref m22, .ref m23, .int 0, .ref m25, .ref m26, .ref m27, .ref m28, .ref m29, .int 0, .ref m31, .ref m32, .ref m33, .int 0, .int 0, .int 0, .ref m37, .ref m38, .ref m39, .ref m40, .long 0])), (m1, .inl (k 0, 4, .inl fw))]) (w1 := []) hP hD [] [0, 1] rfl rfl (by decide) (by decide) hk1 hFc hP1 hD1
  clear hK1 hP1 hD1 hPc hDc hFc
  clear hk1 hz1 ht hvm
  have hP : va_P D vwCl [(mo, .inr (12, [.int 0, .ref m1, .ref m2, .ref m3, .ref m4, .ref m5, .int 0, .int 0, .int 0, .int 0, .int 0, .long 0, .int 0, .int 0, .int 0, .int (-1), .ref m16, .ref m17, .ref m18, .ref m19, .ref m20, .ref m21, .ref m22, .ref m23, .int 0, .ref m25, .ref m26, .ref m27, .ref m28, .ref m29, .int 0, .ref m31, .ref m32, .ref m33, .int 0, .int 0, .int 0, .ref m37, .ref m38, .ref m39, .ref m40, .long 0])), (m1, .inl (k 0, 4, .inl fw))] H1 := hP
  have hD : va_D A [(mo, .inr (12, [.int 0, .ref m1, .ref m2, .ref m3, .ref m4, .ref m5, .int 0, .int 0, .int 0, .int 0, .int 0, .long 0, .int 0, .int 0, .int 0, .int (-1), .ref m16, .ref m17, .ref m18, .ref m19, .ref m20, .ref m21, .ref m22, .ref m23, .int 0, .ref m25, .ref m26, .ref m27, .ref m28, .ref m29, .int 0, .ref m31, .ref m32, .ref m33, .int 0, .int 0, .int 0, .ref m37, .ref m38, .ref m39, .ref m40, .long 0])), (m1, .inl (k 0, 4, .inl fw))] := hD
  generalize H1 = H at hP hS ⊢
  have hw_2 : (r_1.toInt = 1 ∧ 0 ≤ p0.toInt ∧ p0.toInt < 4) ∨ (r_1.toInt = 0 ∧ (p0.toInt < 0 ∨ 4 ≤ p0.toInt)) := hw
  clear hw
  refine lv_if_ne (tgt := 15) hx hb dX12_write_9 (by decide) (fun h_3 => ?_) (fun h_3 => ?_)
  · skip
    have zh_3 : ¬ r_1.toInt = 0 := z_ne h_3
    refine lv_aload_n hx hb dX12_write_15 rfl (lv_at hl 0 rfl) ?_
    refine va_get (D := D) (ci := 12) (v := .ref m1) (C := RX12) (T := TX12) (N := 42) hx hb hts iT_X12 hown hK hP 0 rfl rfl 1 (by decide) (hts _ tw_6_54) (fun _ h9 => h9) rfl dX12_write_16 ?_
    refine lv_iload_n hx hb dX12_write_19 rfl (lv_at hl 1 rfl) ?_
    refine va_iald hx hb hK hP 1 0 rfl rfl (z_in (by omega) (by omega)) dX12_write_20 ?_
    refine lv_topi (fun x_4 ex_4 => ?_)
    obtain rfl : x_4 = (-1) := ex_4.trans (hfw _ (z_cl (by omega) (by omega)))
    refine lv_iconst (v := (-1)) hx hb dX12_write_21 (by decide) ?_
    refine lv_icmp_ne (tgt := 28) hx hb dX12_write_22 (by decide) (fun c9 => absurd c9 (by decide)) (fun _ => ?_)
    refine lv_bipush (v := (-6)) hx hb dX12_write_25 (by decide) ?_
    have hP9 := hP.sub (ws' := [(mo, .inr (12, [.int 0, .ref m1, .ref m2, .ref m3, .ref m4, .ref m5, .int 0, .int 0, .int 0, .int 0, .int 0, .long 0, .int 0, .int 0, .int 0, .int (-1), .ref m16, .ref m17, .ref m18, .ref m19, .ref m20, .ref m21, .ref m22, .ref m23, .int 0, .ref m25, .ref m26, .ref m27, .ref m28, .ref m29, .int 0, .ref m31, .ref m32, .ref m33, .int 0, .int 0, .int 0, .ref m37, .ref m38, .ref m39, .ref m40, .long 0])), (m1, .inl (k 0, 4, .inl fw))]) [0, 1] rfl
    have hD9 := hD.sub (ws' := [(mo, .inr (12, [.int 0, .ref m1, .ref m2, .ref m3, .ref m4, .ref m5, .int 0, .int 0, .int 0, .int 0, .int 0, .long 0, .int 0, .int 0, .int 0, .int (-1), .ref m16, .ref m17, .ref m18, .ref m19, .ref m20, .ref m21, .ref m22, .ref m23, .int 0, .ref m25, .ref m26, .ref m27, .ref m28, .ref m29, .int 0, .ref m31, .ref m32, .ref m33, .int 0, .int 0, .int 0, .ref m37, .ref m38, .ref m39, .ref m40, .long 0])), (m1, .inl (k 0, 4, .inl fw))]) [0, 1] (by decide) rfl
    exact W.iret (v := (-6)) hx hb hr (fun tZ ht hW => ⟨⟨(-6), (), rfl, (show (-6) = sp_write p0 from by unfold sp_write; first | (rw [if_neg (by omega)]) | (rw [if_pos (by omega)])), by rw [ht]; exact hP9, va_K.moved hW.alike hK, hD9⟩, hS.F ht⟩) hS.2.2 dX12_write_27
  · skip
    have zh_3 : r_1.toInt = 0 := z_eq h_3
    refine lv_bipush (v := (-2)) hx hb dX12_write_12 (by decide) ?_
    have hP9 := hP.sub (ws' := [(mo, .inr (12, [.int 0, .ref m1, .ref m2, .ref m3, .ref m4, .ref m5, .int 0, .int 0, .int 0, .int 0, .int 0, .long 0, .int 0, .int 0, .int 0, .int (-1), .ref m16, .ref m17, .ref m18, .ref m19, .ref m20, .ref m21, .ref m22, .ref m23, .int 0, .ref m25, .ref m26, .ref m27, .ref m28, .ref m29, .int 0, .ref m31, .ref m32, .ref m33, .int 0, .int 0, .int 0, .ref m37, .ref m38, .ref m39, .ref m40, .long 0])), (m1, .inl (k 0, 4, .inl fw))]) [0, 1] rfl
    have hD9 := hD.sub (ws' := [(mo, .inr (12, [.int 0, .ref m1, .ref m2, .ref m3, .ref m4, .ref m5, .int 0, .int 0, .int 0, .int 0, .int 0, .long 0, .int 0, .int 0, .int 0, .int (-1), .ref m16, .ref m17, .ref m18, .ref m19, .ref m20, .ref m21, .ref m22, .ref m23, .int 0, .ref m25, .ref m26, .ref m27, .ref m28, .ref m29, .int 0, .ref m31, .ref m32, .ref m33, .int 0, .int 0, .int 0, .ref m37, .ref m38, .ref m39, .ref m40, .long 0])), (m1, .inl (k 0, 4, .inl fw))]) [0, 1] (by decide) rfl
    exact W.iret (v := (-2)) hx hb hr (fun tZ ht hW => ⟨⟨(-2), (), rfl, (show (-2) = sp_write p0 from by unfold sp_write; first | (rw [if_neg (by omega)]) | (rw [if_pos (by omega)])), by rw [ht]; exact hP9, va_K.moved hW.alike hK, hD9⟩, hS.F ht⟩) hS.2.2 dX12_write_14
set_option maxHeartbeats 4000000 in
set_option maxRecDepth 100000 in
theorem c_X12_paste (l : Launch) (D : va_G) (k : Nat → ClassId) (mo : Nat) (m1 : Nat) (m2 : Nat) (m3 : Nat) (m4 : Nat) (m5 : Nat) (m16 : Nat) (m17 : Nat) (m18 : Nat) (m19 : Nat) (m20 : Nat) (m21 : Nat) (m22 : Nat) (m23 : Nat) (m25 : Nat) (m26 : Nat) (m27 : Nat) (m28 : Nat) (m29 : Nat) (m31 : Nat) (m32 : Nat) (m33 : Nat) (m37 : Nat) (m38 : Nat) (m39 : Nat) (m40 : Nat) (fw : Nat → Int32) (p0 : Int32) (p1 : Int32) (p2 : Int32) (p3 : Int32) (p4 : Int32) (sz : Nat) (hfw : ∀ j, j < 4 → fw j = -1) : Met l yX12_paste (ww yX12_paste cX12_paste 7 (some .int)) ({ frames := 2, cells := 0, slots := 0, locals := 45 }) (Pre0 D k [(mo, .inr (12, [.int 0, .ref m1, .ref m2, .ref m3, .ref m4, .ref m5, .int 0, .int 0, .int 0, .int 0, .int 0, .long 0, .int 0, .int 0, .int 0, .int (-1), .ref m16, .ref m17, .ref m18, .ref m19, .ref m20, .ref m21, .ref m22, .ref m23, .int 0, .ref m25, .ref m26, .ref m27, .ref m28, .ref m29, .int 0, .ref m31, .ref m32, .ref m33, .int 0, .int 0, .int 0, .ref m37, .ref m38, .ref m39, .ref m40, .long 0])), (m1, .inl (k 0, 4, .inl fw))] sz [.ref mo, .int p0, .int p1, .int p2, .int p3, .int p4]) (va_Qi (fun (r : Int32) (_ : Unit) => r = sp_paste p0 p2) (fun (_ : Unit) tZ => Bw D k (va_A [(mo, .inr (12, [.int 0, .ref m1, .ref m2, .ref m3, .ref m4, .ref m5, .int 0, .int 0, .int 0, .int 0, .int 0, .long 0, .int 0, .int 0, .int 0, .int (-1), .ref m16, .ref m17, .ref m18, .ref m19, .ref m20, .ref m21, .ref m22, .ref m23, .int 0, .ref m25, .ref m26, .ref m27, .ref m28, .ref m29, .int 0, .ref m31, .ref m32, .ref m33, .int 0, .int 0, .int 0, .ref m37, .ref m38, .ref m39, .ref m40, .long 0])), (m1, .inl (k 0, 4, .inl fw))] sz) [(mo, .inr (12, [.int 0, .ref m1, .ref m2, .ref m3, .ref m4, .ref m5, .int 0, .int 0, .int 0, .int 0, .int 0, .long 0, .int 0, .int 0, .int 0, .int (-1), .ref m16, .ref m17, .ref m18, .ref m19, .ref m20, .ref m21, .ref m22, .ref m23, .int 0, .ref m25, .ref m26, .ref m27, .ref m28, .ref m29, .int 0, .ref m31, .ref m32, .ref m33, .int 0, .int 0, .int 0, .ref m37, .ref m38, .ref m39, .ref m40, .long 0])), (m1, .inl (k 0, 4, .inl fw))] tZ) (va_A [(mo, .inr (12, [.int 0, .ref m1, .ref m2, .ref m3, .ref m4, .ref m5, .int 0, .int 0, .int 0, .int 0, .int 0, .long 0, .int 0, .int 0, .int 0, .int (-1), .ref m16, .ref m17, .ref m18, .ref m19, .ref m20, .ref m21, .ref m22, .ref m23, .int 0, .ref m25, .ref m26, .ref m27, .ref m28, .ref m29, .int 0, .ref m31, .ref m32, .ref m33, .int 0, .int 0, .int 0, .ref m37, .ref m38, .ref m39, .ref m40, .long 0])), (m1, .inl (k 0, 4, .inl fw))] sz)) 0 0 (va_A [(mo, .inr (12, [.int 0, .ref m1, .ref m2, .ref m3, .ref m4, .ref m5, .int 0, .int 0, .int 0, .int 0, .int 0, .long 0, .int 0, .int 0, .int 0, .int (-1), .ref m16, .ref m17, .ref m18, .ref m19, .ref m20, .ref m21, .ref m22, .ref m23, .int 0, .ref m25, .ref m26, .ref m27, .ref m28, .ref m29, .int 0, .ref m31, .ref m32, .ref m33, .int 0, .int 0, .int 0, .ref m37, .ref m38, .ref m39, .ref m40, .long 0])), (m1, .inl (k 0, 4, .inl fw))] sz) := by
  refine Met.ofW (cc := cX12_paste) (maxL := 7) (ret := (some .int)) (by decide +kernel) rfl ?_
  intro p e s m args below meth c s₁ B hml hv
  obtain ⟨rfl, hsz, hP, hK, hD0, hN⟩ := hv
  have hx := B.exec
  have hb := B.bytes
  have hr := B.returns
  have hts : ∀ w ∈ TT, w.before _ s = true := fun w h => atoms_spec (ws := ww yX12_paste cX12_paste 7 (some .int)) B.pre w (List.mem_cons_of_mem _ h)
  have hown : s.vm.findClass RX12 = some m.cls := findClass_of_methodNamed B.named
  have hlocks := B.notSynchronized
  subst hsz
  have hD := hD0.self (sz := s.heap.size)
  generalize hAe : va_A [(mo, .inr (12, [.int 0, .ref m1, .ref m2, .ref m3, .ref m4, .ref m5, .int 0, .int 0, .int 0, .int 0, .int 0, .long 0, .int 0, .int 0, .int 0, .int (-1), .ref m16, .ref m17, .ref m18, .ref m19, .ref m20, .ref m21, .ref m22, .ref m23, .int 0, .ref m25, .ref m26, .ref m27, .ref m28, .ref m29, .int 0, .ref m31, .ref m32, .ref m33, .int 0, .int 0, .int 0, .ref m37, .ref m38, .ref m39, .ref m40, .long 0])), (m1, .inl (k 0, 4, .inl fw))] s.heap.size = A at hD ⊢
  have hA : ∀ q : Nat, s.heap.size ≤ q → A q := fun q h => by rw [← hAe]; exact Or.inr h
  have hS : va_S A s.heap s.heap [] := va_S.rf
  have hl := lv_entry ([.ref mo, .int p0, .int p1, .int p2, .int p3, .int p4]) (n := 7) (Nat.le_of_ble_eq_true rfl)
  rw [lg_entry_eq]
  generalize (lg_sl ([.ref mo, .int p0, .int p1, .int p2, .int p3, .int p4]) ++ List.replicate (7 - (lg_sl ([.ref mo, .int p0, .int p1, .int p2, .int p3, .int p4])).length) Slot.unset).toArray = ls at hl ⊢
  have hl : lv_has ls 7 [(0, .ref mo), (1, .int p0), (2, .int p1), (3, .int p2), (4, .int p3), (5, .int p4)] := hl
  refine lv_aload_n hx hb dX12_paste_0 rfl (lv_at hl 0 rfl) ?_
  refine lv_iconst (v := 0) hx hb dX12_paste_1 (by decide) ?_
  refine va_put (D := D) (ci := 12) (v := .int 0) (ty := tyX12 0) (C := RX12) (T := TX12) (N := 42) hx hb hts iT_X12 tyX12 tyX12_ok nmX12 hown hK hP hD hS 0 rfl rfl 0 (by decide) (hts _ tw_6_53) (fun _ h9 => h9) rfl (tyX12_ok 0 (by decide)) rfl rfl (Nat.le_of_ble_eq_true rfl) dX12_paste_2 (fun H locs hP hD hS => ?_)
  have hP : va_P D vwCl [(mo, .inr (12, [.int 0, .ref m1, .ref m2, .ref m3, .ref m4, .ref m5, .int 0, .int 0, .int 0, .int 0, .int 0, .long 0, .int 0, .int 0, .int 0, .int (-1), .ref m16, .ref m17, .ref m18, .ref m19, .ref m20, .ref m21, .ref m22, .ref m23, .int 0, .ref m25, .ref m26, .ref m27, .ref m28, .ref m29, .int 0, .ref m31, .ref m32, .ref m33, .int 0, .int 0, .int 0, .ref m37, .ref m38, .ref m39, .ref m40, .long 0])), (m1, .inl (k 0, 4, .inl fw))] H := hP
  have hD : va_D A [(mo, .inr (12, [.int 0, .ref m1, .ref m2, .ref m3, .ref m4, .ref m5, .int 0, .int 0, .int 0, .int 0, .int 0, .long 0, .int 0, .int 0, .int 0, .int (-1), .ref m16, .ref m17, .ref m18, .ref m19, .ref m20, .ref m21, .ref m22, .ref m23, .int 0, .ref m25, .ref m26, .ref m27, .ref m28, .ref m29, .int 0, .ref m31, .ref m32, .ref m33, .int 0, .int 0, .int 0, .ref m37, .ref m38, .ref m39, .ref m40, .long 0])), (m1, .inl (k 0, 4, .inl fw))] := hD
  refine lv_iload_n hx hb dX12_paste_5 rfl (lv_at hl 1 rfl) ?_
  have hPc := hP.sub (ws' := []) [] rfl
  have hDc := hD.sub (ws' := []) [] (by decide) rfl
  have hFc := va_free (wc := []) hD hS hA [] rfl
  refine va_calli (va_runS (As := [.int p0]) (rest := []) ⟨hx, hb, hml, hown, hts⟩ (c_X12_isSlot l D k p0 H.size) (va_cwS 1 hts (gS tw_6_184 tw_6_185 tw_1_13 tw_6_186) rfl rfl rfl hdS_X12_isSlot ⟨Nat.le_of_ble_eq_true rfl, Nat.le_of_ble_eq_true rfl⟩) (cz_S hK hPc hDc hN [.int p0]) rfl rfl hl.1 rfl (lv_room (Nat.le_of_ble_eq_true rfl)) dX12_paste_6 ⟨Nat.le_of_ble_eq_true rfl, Nat.le_of_ble_eq_true rfl⟩) hS (fun q _ h => hFc q h) hFc (fun r_1 uZ tZ H1 locs ht hvm hw hB hz1 hk1 hS => ?_)
  obtain ⟨hP1, hK1, hD1⟩ := hB
  rw [ht] at hP1
  obtain ⟨hP, hD⟩ := va_join (wr := [(mo, .inr (12, [.int 0, .ref m1, .ref m2, .ref m3, .ref m4, .ref m5, .int 0, .int 0, .int 0, .int 0, .int 0, .long 0, .int 0, .int 0, .int 0, .int (-1), .ref m16, .ref m17, .ref m18, .ref m19, .ref m20, .ref m21, .ref m22, .ref m23, .int 0, .ref m25, .ref m26, .ref m27, .ref m28, .ref m29, .int 0, .ref m31, .ref m32, .ref m33, .int 0, .int 0, .int 0, .ref m37, .ref m38, .ref m39, .ref m40, .long 0])), (m1, .inl (k 0, 4, .inl fw))]) (w1 := []) hP hD [] [0, 1] rfl rfl (by decide) (by decide) hk1 hFc hP1 hD1
  clear hK1 hP1 hD1 hPc hDc hFc
  clear hk1 hz1 ht hvm
  have hP : va_P D vwCl [(mo, .inr (12, [.int 0, .ref m1, .ref m2, .ref m3, .ref m4, .ref m5, .int 0, .int 0, .int 0, .int 0, .int 0, .long 0, .int 0, .int 0, .int 0, .int (-1), .ref m16, .ref m17, .ref m18, .ref m19, .ref m20, .ref m21, .ref m22, .ref m23, .int 0, .ref m25, .ref m26, .ref m27, .ref m28, .ref m29, .int 0, .ref m31, .ref m32, .ref m33, .int 0, .int 0, .int 0, .ref m37, .ref m38, .ref m39, .ref m40, .long 0])), (m1, .inl (k 0, 4, .inl fw))] H1 := hP
  have hD : va_D A [(mo, .inr (12, [.int 0, .ref m1, .ref m2, .ref m3, .ref m4, .ref m5, .int 0, .int 0, .int 0, .int 0, .int 0, .long 0, .int 0, .int 0, .int 0, .int (-1), .ref m16, .ref m17, .ref m18, .ref m19, .ref m20, .ref m21, .ref m22, .ref m23, .int 0, .ref m25, .ref m26, .ref m27, .ref m28, .ref m29, .int 0, .ref m31, .ref m32, .ref m33, .int 0, .int 0, .int 0, .ref m37, .ref m38, .ref m39, .ref m40, .long 0])), (m1, .inl (k 0, 4, .inl fw))] := hD
  generalize H1 = H at hP hS ⊢
  have hw_2 : (r_1.toInt = 1 ∧ 0 ≤ p0.toInt ∧ p0.toInt < 4) ∨ (r_1.toInt = 0 ∧ (p0.toInt < 0 ∨ 4 ≤ p0.toInt)) := hw
  clear hw
  refine lv_if_eq (tgt := 19) hx hb dX12_paste_9 (by decide) (fun h_3 => ?_) (fun h_3 => ?_)
  · skip
    have zh_3 : r_1.toInt = 0 := z_eq h_3
    refine lv_bipush (v := (-2)) hx hb dX12_paste_19 (by decide) ?_
    have hP9 := hP.sub (ws' := [(mo, .inr (12, [.int 0, .ref m1, .ref m2, .ref m3, .ref m4, .ref m5, .int 0, .int 0, .int 0, .int 0, .int 0, .long 0, .int 0, .int 0, .int 0, .int (-1), .ref m16, .ref m17, .ref m18, .ref m19, .ref m20, .ref m21, .ref m22, .ref m23, .int 0, .ref m25, .ref m26, .ref m27, .ref m28, .ref m29, .int 0, .ref m31, .ref m32, .ref m33, .int 0, .int 0, .int 0, .ref m37, .ref m38, .ref m39, .ref m40, .long 0])), (m1, .inl (k 0, 4, .inl fw))]) [0, 1] rfl
    have hD9 := hD.sub (ws' := [(mo, .inr (12, [.int 0, .ref m1, .ref m2, .ref m3, .ref m4, .ref m5, .int 0, .int 0, .int 0, .int 0, .int 0, .long 0, .int 0, .int 0, .int 0, .int (-1), .ref m16, .ref m17, .ref m18, .ref m19, .ref m20, .ref m21, .ref m22, .ref m23, .int 0, .ref m25, .ref m26, .ref m27, .ref m28, .ref m29, .int 0, .ref m31, .ref m32, .ref m33, .int 0, .int 0, .int 0, .ref m37, .ref m38, .ref m39, .ref m40, .long 0])), (m1, .inl (k 0, 4, .inl fw))]) [0, 1] (by decide) rfl
    exact W.iret (v := (-2)) hx hb hr (fun tZ ht hW => ⟨⟨(-2), (), rfl, (show (-2) = sp_paste p0 p2 from by unfold sp_paste; first | (rw [if_neg (by omega)]) | (rw [if_pos (by omega)])), by rw [ht]; exact hP9, va_K.moved hW.alike hK, hD9⟩, hS.F ht⟩) hS.2.2 dX12_paste_21
  · skip
    have zh_3 : ¬ r_1.toInt = 0 := z_ne h_3
    refine lv_iload_n hx hb dX12_paste_12 rfl (lv_at hl 3 rfl) ?_
    have hPc := hP.sub (ws' := []) [] rfl
    have hDc := hD.sub (ws' := []) [] (by decide) rfl
    have hFc := va_free (wc := []) hD hS hA [] rfl
    refine va_calli (va_runS (As := [.int p2]) (rest := []) ⟨hx, hb, hml, hown, hts⟩ (c_X12_isSlot l D k p2 H.size) (va_cwS 1 hts (gS tw_6_184 tw_6_185 tw_1_13 tw_6_186) rfl rfl rfl hdS_X12_isSlot ⟨Nat.le_of_ble_eq_true rfl, Nat.le_of_ble_eq_true rfl⟩) (cz_S hK hPc hDc hN [.int p2]) rfl rfl hl.1 rfl (lv_room (Nat.le_of_ble_eq_true rfl)) dX12_paste_13 ⟨Nat.le_of_ble_eq_true rfl, Nat.le_of_ble_eq_true rfl⟩) hS (fun q _ h => hFc q h) hFc (fun r_4 uZ tZ H1 locs ht hvm hw hB hz1 hk1 hS => ?_)
    obtain ⟨hP1, hK1, hD1⟩ := hB
    rw [ht] at hP1
    obtain ⟨hP, hD⟩ := va_join (wr := [(mo, .inr (12, [.int 0, .ref m1, .ref m2, .ref m3, .ref m4, .ref m5, .int 0, .int 0, .int 0, .int 0, .int 0, .long 0, .int 0, .int 0, .int 0, .int (-1), .ref m16, .ref m17, .ref m18, .ref m19, .ref m20, .ref m21, .ref m22, .ref m23, .int 0, .ref m25, .ref m26, .ref m27, .ref m28, .ref m29, .int 0, .ref m31, .ref m32, .ref m33, .int 0, .int 0, .int 0, .ref m37, .ref m38, .ref m39, .ref m40, .long 0])), (m1, .inl (k 0, 4, .inl fw))]) (w1 := []) hP hD [] [0, 1] rfl rfl (by decide) (by decide) hk1 hFc hP1 hD1
    clear hK1 hP1 hD1 hPc hDc hFc
    clear hk1 hz1 ht hvm
    have hP : va_P D vwCl [(mo, .inr (12, [.int 0, .ref m1, .ref m2, .ref m3, .ref m4, .ref m5, .int 0, .int 0, .int 0, .int 0, .int 0, .long 0, .int 0, .int 0, .int 0, .int (-1), .ref m16, .ref m17, .ref m18, .ref m19, .ref m20, .ref m21, .ref m22, .ref m23, .int 0, .ref m25, .ref m26, .ref m27, .ref m28, .ref m29, .int 0, .ref m31, .ref m32, .ref m33, .int 0, .int 0, .int 0, .ref m37, .ref m38, .ref m39, .ref m40, .long 0])), (m1, .inl (k 0, 4, .inl fw))] H1 := hP
    have hD : va_D A [(mo, .inr (12, [.int 0, .ref m1, .ref m2, .ref m3, .ref m4, .ref m5, .int 0, .int 0, .int 0, .int 0, .int 0, .long 0, .int 0, .int 0, .int 0, .int (-1), .ref m16, .ref m17, .ref m18, .ref m19, .ref m20, .ref m21, .ref m22, .ref m23, .int 0, .ref m25, .ref m26, .ref m27, .ref m28, .ref m29, .int 0, .ref m31, .ref m32, .ref m33, .int 0, .int 0, .int 0, .ref m37, .ref m38, .ref m39, .ref m40, .long 0])), (m1, .inl (k 0, 4, .inl fw))] := hD
    generalize H1 = H at hP hS ⊢
    have hw_5 : (r_4.toInt = 1 ∧ 0 ≤ p2.toInt ∧ p2.toInt < 4) ∨ (r_4.toInt = 0 ∧ (p2.toInt < 0 ∨ 4 ≤ p2.toInt)) := hw
    clear hw
    refine lv_if_ne (tgt := 22) hx hb dX12_paste_16 (by decide) (fun h_6 => ?_) (fun h_6 => ?_)
    · skip
      have zh_6 : ¬ r_4.toInt = 0 := z_ne h_6
      refine lv_aload_n hx hb dX12_paste_22 rfl (lv_at hl 0 rfl) ?_
      refine va_get (D := D) (ci := 12) (v := .ref m1) (C := RX12) (T := TX12) (N := 42) hx hb hts iT_X12 hown hK hP 0 rfl rfl 1 (by decide) (hts _ tw_6_54) (fun _ h9 => h9) rfl dX12_paste_23 ?_
      refine lv_iload_n hx hb dX12_paste_26 rfl (lv_at hl 1 rfl) ?_
      refine va_iald hx hb hK hP 1 0 rfl rfl (z_in (by omega) (by omega)) dX12_paste_27 ?_
      refine lv_topi (fun x_7 ex_7 => ?_)
      obtain rfl : x_7 = (-1) := ex_7.trans (hfw _ (z_cl (by omega) (by omega)))
      refine lv_iconst (v := (-1)) hx hb dX12_paste_28 (by decide) ?_
      refine lv_icmp_eq (tgt := 42) hx hb dX12_paste_29 (by decide) (fun _ => ?_) (fun c9 => absurd c9 (by decide))
      refine lv_bipush (v := (-6)) hx hb dX12_paste_42 (by decide) ?_
      have hP9 := hP.sub (ws' := [(mo, .inr (12, [.int 0, .ref m1, .ref m2, .ref m3, .ref m4, .ref m5, .int 0, .int 0, .int 0, .int 0, .int 0, .long 0, .int 0, .int 0, .int 0, .int (-1), .ref m16, .ref m17, .ref m18, .ref m19, .ref m20, .ref m21, .ref m22, .ref m23, .int 0, .ref m25, .ref m26, .ref m27, .ref m28, .ref m29, .int 0, .ref m31, .ref m32, .ref m33, .int 0, .int 0, .int 0, .ref m37, .ref m38, .ref m39, .ref m40, .long 0])), (m1, .inl (k 0, 4, .inl fw))]) [0, 1] rfl
      have hD9 := hD.sub (ws' := [(mo, .inr (12, [.int 0, .ref m1, .ref m2, .ref m3, .ref m4, .ref m5, .int 0, .int 0, .int 0, .int 0, .int 0, .long 0, .int 0, .int 0, .int 0, .int (-1), .ref m16, .ref m17, .ref m18, .ref m19, .ref m20, .ref m21, .ref m22, .ref m23, .int 0, .ref m25, .ref m26, .ref m27, .ref m28, .ref m29, .int 0, .ref m31, .ref m32, .ref m33, .int 0, .int 0, .int 0, .ref m37, .ref m38, .ref m39, .ref m40, .long 0])), (m1, .inl (k 0, 4, .inl fw))]) [0, 1] (by decide) rfl
      exact W.iret (v := (-6)) hx hb hr (fun tZ ht hW => ⟨⟨(-6), (), rfl, (show (-6) = sp_paste p0 p2 from by unfold sp_paste; first | (rw [if_neg (by omega)]) | (rw [if_pos (by omega)])), by rw [ht]; exact hP9, va_K.moved hW.alike hK, hD9⟩, hS.F ht⟩) hS.2.2 dX12_paste_44
    · skip
      have zh_6 : r_4.toInt = 0 := z_eq h_6
      refine lv_bipush (v := (-2)) hx hb dX12_paste_19 (by decide) ?_
      have hP9 := hP.sub (ws' := [(mo, .inr (12, [.int 0, .ref m1, .ref m2, .ref m3, .ref m4, .ref m5, .int 0, .int 0, .int 0, .int 0, .int 0, .long 0, .int 0, .int 0, .int 0, .int (-1), .ref m16, .ref m17, .ref m18, .ref m19, .ref m20, .ref m21, .ref m22, .ref m23, .int 0, .ref m25, .ref m26, .ref m27, .ref m28, .ref m29, .int 0, .ref m31, .ref m32, .ref m33, .int 0, .int 0, .int 0, .ref m37, .ref m38, .ref m39, .ref m40, .long 0])), (m1, .inl (k 0, 4, .inl fw))]) [0, 1] rfl
      have hD9 := hD.sub (ws' := [(mo, .inr (12, [.int 0, .ref m1, .ref m2, .ref m3, .ref m4, .ref m5, .int 0, .int 0, .int 0, .int 0, .int 0, .long 0, .int 0, .int 0, .int 0, .int (-1), .ref m16, .ref m17, .ref m18, .ref m19, .ref m20, .ref m21, .ref m22, .ref m23, .int 0, .ref m25, .ref m26, .ref m27, .ref m28, .ref m29, .int 0, .ref m31, .ref m32, .ref m33, .int 0, .int 0, .int 0, .ref m37, .ref m38, .ref m39, .ref m40, .long 0])), (m1, .inl (k 0, 4, .inl fw))]) [0, 1] (by decide) rfl
      exact W.iret (v := (-2)) hx hb hr (fun tZ ht hW => ⟨⟨(-2), (), rfl, (show (-2) = sp_paste p0 p2 from by unfold sp_paste; first | (rw [if_neg (by omega)]) | (rw [if_pos (by omega)])), by rw [ht]; exact hP9, va_K.moved hW.alike hK, hD9⟩, hS.F ht⟩) hS.2.2 dX12_paste_21
