set_option maxHeartbeats 4000000 in
set_option maxRecDepth 100000 in
theorem c_X0_keep (l : Launch) (D : va_G) (k : Nat → ClassId) (ob : Nat) (p0 : Int32) (p1 : Int32) (p2 : Int32) (obv0 : Int32) (ob_1 : Nat) (ob_2 : Nat) (ob_3 : Nat) (obg1 : Nat → Int32) (obg2 : Nat → Int32) (obg3 : Nat → Int32) (sz : Nat) (h_p2 : 0 ≤ p2.toInt ∧ p2.toInt ≤ 99) (h_obv0 : 0 ≤ obv0.toInt ∧ obv0.toInt ≤ 40) (hp_obg3_0 : PR 40 1 0 0 99 obg3) : Met l yX0_keep (ww yX0_keep cX0_keep 4 none) ({ frames := 0, cells := 0, slots := 0, locals := 0 }) (Pre0 D k [(ob, .inr (0, [.int obv0, .ref ob_1, .ref ob_2, .ref ob_3])), (ob_1, .inl (k 0, 40, .inl obg1)), (ob_2, .inl (k 0, 40, .inl obg2)), (ob_3, .inl (k 0, 40, .inl obg3))] sz [.ref ob, .int p0, .int p1, .int p2]) (va_Qv (fun (u : Int32 × (Nat → Int32) × (Nat → Int32) × (Nat → Int32)) => match u with | (obv0z, obg1z, obg2z, obg3z) => (1 ≤ obv0z.toInt ∧ obv0z.toInt ≤ 40) ∧ (PR 40 1 0 0 99 obg3z)) (fun (u : Int32 × (Nat → Int32) × (Nat → Int32) × (Nat → Int32)) tZ => match u with | (obv0z, obg1z, obg2z, obg3z) => Bw D k (va_A [(ob, .inr (0, [.int obv0, .ref ob_1, .ref ob_2, .ref ob_3])), (ob_1, .inl (k 0, 40, .inl obg1)), (ob_2, .inl (k 0, 40, .inl obg2)), (ob_3, .inl (k 0, 40, .inl obg3))] sz) [(ob, .inr (0, [.int obv0z, .ref ob_1, .ref ob_2, .ref ob_3])), (ob_1, .inl (k 0, 40, .inl obg1z)), (ob_2, .inl (k 0, 40, .inl obg2z)), (ob_3, .inl (k 0, 40, .inl obg3z))] tZ) (va_A [(ob, .inr (0, [.int obv0, .ref ob_1, .ref ob_2, .ref ob_3])), (ob_1, .inl (k 0, 40, .inl obg1)), (ob_2, .inl (k 0, 40, .inl obg2)), (ob_3, .inl (k 0, 40, .inl obg3))] sz)) 0 0 (va_A [(ob, .inr (0, [.int obv0, .ref ob_1, .ref ob_2, .ref ob_3])), (ob_1, .inl (k 0, 40, .inl obg1)), (ob_2, .inl (k 0, 40, .inl obg2)), (ob_3, .inl (k 0, 40, .inl obg3))] sz) := by
  refine Met.ofW (cc := cX0_keep) (maxL := 4) (ret := none) (by decide +kernel) rfl ?_
  intro p e s m args below meth c s₁ B hml hv
  obtain ⟨rfl, hsz, hP, hK, hD0, hN⟩ := hv
  have hx := B.exec
  have hb := B.bytes
  have hr := B.returns
  have hts : ∀ w ∈ TT, w.before _ s = true := fun w h => atoms_spec (ws := ww yX0_keep cX0_keep 4 none) B.pre w (List.mem_cons_of_mem _ h)
  have hown : s.vm.findClass RX0 = some m.cls := findClass_of_methodNamed B.named
  have hlocks := B.notSynchronized
  subst hsz
  have hD := hD0.self (sz := s.heap.size)
  generalize hAe : va_A [(ob, .inr (0, [.int obv0, .ref ob_1, .ref ob_2, .ref ob_3])), (ob_1, .inl (k 0, 40, .inl obg1)), (ob_2, .inl (k 0, 40, .inl obg2)), (ob_3, .inl (k 0, 40, .inl obg3))] s.heap.size = A at hD ⊢
  have hA : ∀ q : Nat, s.heap.size ≤ q → A q := fun q h => by rw [← hAe]; exact Or.inr h
  have hS : va_S A s.heap s.heap [] := va_S.rf
  have hl := lv_entry ([.ref ob, .int p0, .int p1, .int p2]) (n := 4) (Nat.le_of_ble_eq_true rfl)
  rw [lg_entry_eq]
  generalize (lg_sl ([.ref ob, .int p0, .int p1, .int p2]) ++ List.replicate (4 - (lg_sl ([.ref ob, .int p0, .int p1, .int p2])).length) Slot.unset).toArray = ls at hl ⊢
  have hl : lv_has ls 4 [(0, .ref ob), (1, .int p0), (2, .int p1), (3, .int p2)] := hl
  refine lv_aload_n hx hb dX0_keep_0 rfl (lv_at hl 0 rfl) ?_
  refine va_get (D := D) (ci := 0) (v := .int obv0) (C := RX0) (T := TX0) (N := 4) hx hb hts iT_X0 hown hK hP 0 rfl rfl 0 (by decide) (hts _ tw_1_48) (fun _ h9 => h9) rfl dX0_keep_1 ?_
  refine lv_bipush (v := 40) hx hb dX0_keep_4 (by decide) ?_
  refine lv_icmp_ge (tgt := 49) hx hb dX0_keep_6 (by decide) (fun h_1 => ?_) (fun h_1 => ?_)
  · skip
    have zh_1 : 40 ≤ obv0.toInt := z_le h_1
    obtain ⟨hP9, hD9⟩ := sub2 hP hD (ws' := [(ob, .inr (0, [.int obv0, .ref ob_1, .ref ob_2, .ref ob_3])), (ob_1, .inl (k 0, 40, .inl obg1)), (ob_2, .inl (k 0, 40, .inl obg2)), (ob_3, .inl (k 0, 40, .inl obg3))]) [0, 1, 2, 3] (by decide +kernel) rfl
    exact W.vret hx hb hr (fun tZ ht hW => ⟨⟨(obv0, obg1, obg2, obg3), rfl, ⟨(show 1 ≤ obv0.toInt ∧ obv0.toInt ≤ 40 from by omega), hp_obg3_0⟩, by rw [ht]; exact hP9, va_K.moved hW.alike hK, hD9⟩, hS.F ht⟩) hS.2.2 dX0_keep_49
  · skip
    have zh_1 : obv0.toInt < 40 := z_nle h_1
    refine lv_aload_n hx hb dX0_keep_9 rfl (lv_at hl 0 rfl) ?_
    refine va_get (D := D) (ci := 0) (v := .ref ob_1) (C := RX0) (T := TX0) (N := 4) hx hb hts iT_X0 hown hK hP 0 rfl rfl 1 (by decide) (hts _ tw_1_51) (fun _ h9 => h9) rfl dX0_keep_10 ?_
    refine lv_aload_n hx hb dX0_keep_13 rfl (lv_at hl 0 rfl) ?_
    refine va_get (D := D) (ci := 0) (v := .int obv0) (C := RX0) (T := TX0) (N := 4) hx hb hts iT_X0 hown hK hP 0 rfl rfl 0 (by decide) (hts _ tw_1_48) (fun _ h9 => h9) rfl dX0_keep_14 ?_
    refine lv_iload_n hx hb dX0_keep_17 rfl (lv_at hl 1 rfl) ?_
    refine va_iast hx hb hK hP hD hS 1 0 rfl rfl (z_in (by omega) (by omega)) dX0_keep_18 (fun H locs hP hD hS => ?_)
    obtain ⟨g_2, eg_2⟩ : ∃ z : Nat → Int32, upd obg1 obv0.toNatClampNeg p0 = z := ⟨_, rfl⟩
    have hP : va_P D vwCl [(ob, .inr (0, [.int obv0, .ref ob_1, .ref ob_2, .ref ob_3])), (ob_1, .inl (k 0, 40, .inl (upd obg1 obv0.toNatClampNeg p0))), (ob_2, .inl (k 0, 40, .inl obg2)), (ob_3, .inl (k 0, 40, .inl obg3))] H := hP
    have hD : va_D A [(ob, .inr (0, [.int obv0, .ref ob_1, .ref ob_2, .ref ob_3])), (ob_1, .inl (k 0, 40, .inl (upd obg1 obv0.toNatClampNeg p0))), (ob_2, .inl (k 0, 40, .inl obg2)), (ob_3, .inl (k 0, 40, .inl obg3))] := hD
    rw [eg_2] at hP hD
    refine lv_aload_n hx hb dX0_keep_19 rfl (lv_at hl 0 rfl) ?_
    refine va_get (D := D) (ci := 0) (v := .ref ob_2) (C := RX0) (T := TX0) (N := 4) hx hb hts iT_X0 hown hK hP 0 rfl rfl 2 (by decide) (hts _ tw_1_53) (fun _ h9 => h9) rfl dX0_keep_20 ?_
    refine lv_aload_n hx hb dX0_keep_23 rfl (lv_at hl 0 rfl) ?_
    refine va_get (D := D) (ci := 0) (v := .int obv0) (C := RX0) (T := TX0) (N := 4) hx hb hts iT_X0 hown hK hP 0 rfl rfl 0 (by decide) (hts _ tw_1_48) (fun _ h9 => h9) rfl dX0_keep_24 ?_
    refine lv_iload_n hx hb dX0_keep_27 rfl (lv_at hl 2 rfl) ?_
    refine va_iast hx hb hK hP hD hS 2 0 rfl rfl (z_in (by omega) (by omega)) dX0_keep_28 (fun H locs hP hD hS => ?_)
    obtain ⟨g_3, eg_3⟩ : ∃ z : Nat → Int32, upd obg2 obv0.toNatClampNeg p1 = z := ⟨_, rfl⟩
    have hP : va_P D vwCl [(ob, .inr (0, [.int obv0, .ref ob_1, .ref ob_2, .ref ob_3])), (ob_1, .inl (k 0, 40, .inl g_2)), (ob_2, .inl (k 0, 40, .inl (upd obg2 obv0.toNatClampNeg p1))), (ob_3, .inl (k 0, 40, .inl obg3))] H := hP
    have hD : va_D A [(ob, .inr (0, [.int obv0, .ref ob_1, .ref ob_2, .ref ob_3])), (ob_1, .inl (k 0, 40, .inl g_2)), (ob_2, .inl (k 0, 40, .inl (upd obg2 obv0.toNatClampNeg p1))), (ob_3, .inl (k 0, 40, .inl obg3))] := hD
    rw [eg_3] at hP hD
    refine lv_aload_n hx hb dX0_keep_29 rfl (lv_at hl 0 rfl) ?_
    refine va_get (D := D) (ci := 0) (v := .ref ob_3) (C := RX0) (T := TX0) (N := 4) hx hb hts iT_X0 hown hK hP 0 rfl rfl 3 (by decide) (hts _ tw_1_55) (fun _ h9 => h9) rfl dX0_keep_30 ?_
    refine lv_aload_n hx hb dX0_keep_33 rfl (lv_at hl 0 rfl) ?_
    refine va_get (D := D) (ci := 0) (v := .int obv0) (C := RX0) (T := TX0) (N := 4) hx hb hts iT_X0 hown hK hP 0 rfl rfl 0 (by decide) (hts _ tw_1_48) (fun _ h9 => h9) rfl dX0_keep_34 ?_
    refine lv_iload_n hx hb dX0_keep_37 rfl (lv_at hl 3 rfl) ?_
    refine va_iast hx hb hK hP hD hS 3 0 rfl rfl (z_in (by omega) (by omega)) dX0_keep_38 (fun H locs hP hD hS => ?_)
    obtain ⟨g_4, eg_4⟩ : ∃ z : Nat → Int32, upd obg3 obv0.toNatClampNeg p2 = z := ⟨_, rfl⟩
    have hP : va_P D vwCl [(ob, .inr (0, [.int obv0, .ref ob_1, .ref ob_2, .ref ob_3])), (ob_1, .inl (k 0, 40, .inl g_2)), (ob_2, .inl (k 0, 40, .inl g_3)), (ob_3, .inl (k 0, 40, .inl (upd obg3 obv0.toNatClampNeg p2)))] H := hP
    have hD : va_D A [(ob, .inr (0, [.int obv0, .ref ob_1, .ref ob_2, .ref ob_3])), (ob_1, .inl (k 0, 40, .inl g_2)), (ob_2, .inl (k 0, 40, .inl g_3)), (ob_3, .inl (k 0, 40, .inl (upd obg3 obv0.toNatClampNeg p2)))] := hD
    rw [eg_4] at hP hD
    have hp_5 : PR 40 1 0 0 99 g_4 := by rw [← eg_4]; exact PR.put hp_obg3_0 ⟨by omega, by omega⟩
    refine lv_aload_n hx hb dX0_keep_39 rfl (lv_at hl 0 rfl) ?_
    refine lv_dup hx hb dX0_keep_40 rfl ?_
    refine va_get (D := D) (ci := 0) (v := .int obv0) (C := RX0) (T := TX0) (N := 4) hx hb hts iT_X0 hown hK hP 0 rfl rfl 0 (by decide) (hts _ tw_1_48) (fun _ h9 => h9) rfl dX0_keep_41 ?_
    refine lv_iconst (v := 1) hx hb dX0_keep_44 (by decide) ?_
    refine lv_iadd hx hb dX0_keep_45 ?_
    refine lv_topi (fun x_6 ex_6 => ?_)
    have zx_6 : x_6.toInt = obv0.toInt + 1 := by rw [ex_6]; exact z_add rfl rfl (by omega) (by omega)
    refine va_put (D := D) (ci := 0) (v := .int x_6) (ty := tyX0 0) (C := RX0) (T := TX0) (N := 4) hx hb hts iT_X0 tyX0 tyX0_ok nmX0 hown hK hP hD hS 0 rfl rfl 0 (by decide) (hts _ tw_1_48) (fun _ h9 => h9) rfl (tyX0_ok 0 (by decide)) rfl rfl (Nat.le_of_ble_eq_true rfl) dX0_keep_46 (fun H locs hP hD hS => ?_)
    have hP : va_P D vwCl [(ob, .inr (0, [.int x_6, .ref ob_1, .ref ob_2, .ref ob_3])), (ob_1, .inl (k 0, 40, .inl g_2)), (ob_2, .inl (k 0, 40, .inl g_3)), (ob_3, .inl (k 0, 40, .inl g_4))] H := hP
    have hD : va_D A [(ob, .inr (0, [.int x_6, .ref ob_1, .ref ob_2, .ref ob_3])), (ob_1, .inl (k 0, 40, .inl g_2)), (ob_2, .inl (k 0, 40, .inl g_3)), (ob_3, .inl (k 0, 40, .inl g_4))] := hD
    obtain ⟨hP9, hD9⟩ := sub2 hP hD (ws' := [(ob, .inr (0, [.int x_6, .ref ob_1, .ref ob_2, .ref ob_3])), (ob_1, .inl (k 0, 40, .inl g_2)), (ob_2, .inl (k 0, 40, .inl g_3)), (ob_3, .inl (k 0, 40, .inl g_4))]) [0, 1, 2, 3] (by decide +kernel) rfl
    exact W.vret hx hb hr (fun tZ ht hW => ⟨⟨(x_6, g_2, g_3, g_4), rfl, ⟨(show 1 ≤ x_6.toInt ∧ x_6.toInt ≤ 40 from by omega), hp_5⟩, by rw [ht]; exact hP9, va_K.moved hW.alike hK, hD9⟩, hS.F ht⟩) hS.2.2 dX0_keep_49
set_option maxHeartbeats 4000000 in
set_option maxRecDepth 100000 in
theorem c_X0_become (l : Launch) (D : va_G) (k : Nat → ClassId) (ob : Nat) (ax : Nat) (obv0 : Int32) (ob_1 : Nat) (ob_2 : Nat) (ob_3 : Nat) (obg1 : Nat → Int32) (obg2 : Nat → Int32) (obg3 : Nat → Int32) (axv0 : Int32) (ax_1 : Nat) (ax_2 : Nat) (ax_3 : Nat) (axg1 : Nat → Int32) (axg2 : Nat → Int32) (axg3 : Nat → Int32) (sz : Nat) (h_obv0 : 0 ≤ obv0.toInt ∧ obv0.toInt ≤ 40) (hp_obg3_0 : PR 40 1 0 0 99 obg3) (h_axv0 : 0 ≤ axv0.toInt ∧ axv0.toInt ≤ 40) (hp_axg3_0 : PR 40 1 0 0 99 axg3) : Met l yX0_become (ww yX0_become cX0_become 2 none) ({ frames := 1, cells := 0, slots := 0, locals := 60 }) (Pre0 D k [(ob, .inr (0, [.int obv0, .ref ob_1, .ref ob_2, .ref ob_3])), (ob_1, .inl (k 0, 40, .inl obg1)), (ob_2, .inl (k 0, 40, .inl obg2)), (ob_3, .inl (k 0, 40, .inl obg3)), (ax, .inr (0, [.int axv0, .ref ax_1, .ref ax_2, .ref ax_3])), (ax_1, .inl (k 0, 40, .inl axg1)), (ax_2, .inl (k 0, 40, .inl axg2)), (ax_3, .inl (k 0, 40, .inl axg3))] sz [.ref ob, .ref ax]) (va_Qv (fun (u : Int32 × (Nat → Int32) × (Nat → Int32) × (Nat → Int32)) => match u with | (obv0z, obg1z, obg2z, obg3z) => (0 ≤ obv0z.toInt ∧ obv0z.toInt ≤ 40) ∧ (PR 40 1 0 0 99 obg3z)) (fun (u : Int32 × (Nat → Int32) × (Nat → Int32) × (Nat → Int32)) tZ => match u with | (obv0z, obg1z, obg2z, obg3z) => Bw D k (va_A [(ob, .inr (0, [.int obv0, .ref ob_1, .ref ob_2, .ref ob_3])), (ob_1, .inl (k 0, 40, .inl obg1)), (ob_2, .inl (k 0, 40, .inl obg2)), (ob_3, .inl (k 0, 40, .inl obg3)), (ax, .inr (0, [.int axv0, .ref ax_1, .ref ax_2, .ref ax_3])), (ax_1, .inl (k 0, 40, .inl axg1)), (ax_2, .inl (k 0, 40, .inl axg2)), (ax_3, .inl (k 0, 40, .inl axg3))] sz) [(ob, .inr (0, [.int obv0z, .ref ob_1, .ref ob_2, .ref ob_3])), (ob_1, .inl (k 0, 40, .inl obg1z)), (ob_2, .inl (k 0, 40, .inl obg2z)), (ob_3, .inl (k 0, 40, .inl obg3z)), (ax, .inr (0, [.int axv0, .ref ax_1, .ref ax_2, .ref ax_3])), (ax_1, .inl (k 0, 40, .inl axg1)), (ax_2, .inl (k 0, 40, .inl axg2)), (ax_3, .inl (k 0, 40, .inl axg3))] tZ) (va_A [(ob, .inr (0, [.int obv0, .ref ob_1, .ref ob_2, .ref ob_3])), (ob_1, .inl (k 0, 40, .inl obg1)), (ob_2, .inl (k 0, 40, .inl obg2)), (ob_3, .inl (k 0, 40, .inl obg3)), (ax, .inr (0, [.int axv0, .ref ax_1, .ref ax_2, .ref ax_3])), (ax_1, .inl (k 0, 40, .inl axg1)), (ax_2, .inl (k 0, 40, .inl axg2)), (ax_3, .inl (k 0, 40, .inl axg3))] sz)) 0 0 (va_A [(ob, .inr (0, [.int obv0, .ref ob_1, .ref ob_2, .ref ob_3])), (ob_1, .inl (k 0, 40, .inl obg1)), (ob_2, .inl (k 0, 40, .inl obg2)), (ob_3, .inl (k 0, 40, .inl obg3)), (ax, .inr (0, [.int axv0, .ref ax_1, .ref ax_2, .ref ax_3])), (ax_1, .inl (k 0, 40, .inl axg1)), (ax_2, .inl (k 0, 40, .inl axg2)), (ax_3, .inl (k 0, 40, .inl axg3))] sz) := by
  refine Met.ofW (cc := cX0_become) (maxL := 2) (ret := none) (by decide +kernel) rfl ?_
  intro p e s m args below meth c s₁ B hml hv
  obtain ⟨rfl, hsz, hP, hK, hD0, hN⟩ := hv
  have hx := B.exec
  have hb := B.bytes
  have hr := B.returns
  have hts : ∀ w ∈ TT, w.before _ s = true := fun w h => atoms_spec (ws := ww yX0_become cX0_become 2 none) B.pre w (List.mem_cons_of_mem _ h)
  have hown : s.vm.findClass RX0 = some m.cls := findClass_of_methodNamed B.named
  have hlocks := B.notSynchronized
  subst hsz
  have hD := hD0.self (sz := s.heap.size)
  generalize hAe : va_A [(ob, .inr (0, [.int obv0, .ref ob_1, .ref ob_2, .ref ob_3])), (ob_1, .inl (k 0, 40, .inl obg1)), (ob_2, .inl (k 0, 40, .inl obg2)), (ob_3, .inl (k 0, 40, .inl obg3)), (ax, .inr (0, [.int axv0, .ref ax_1, .ref ax_2, .ref ax_3])), (ax_1, .inl (k 0, 40, .inl axg1)), (ax_2, .inl (k 0, 40, .inl axg2)), (ax_3, .inl (k 0, 40, .inl axg3))] s.heap.size = A at hD ⊢
  have hA : ∀ q : Nat, s.heap.size ≤ q → A q := fun q h => by rw [← hAe]; exact Or.inr h
  have hS : va_S A s.heap s.heap [] := va_S.rf
  have hl := lv_entry ([.ref ob, .ref ax]) (n := 2) (Nat.le_of_ble_eq_true rfl)
  rw [lg_entry_eq]
  generalize (lg_sl ([.ref ob, .ref ax]) ++ List.replicate (2 - (lg_sl ([.ref ob, .ref ax])).length) Slot.unset).toArray = ls at hl ⊢
  have hl : lv_has ls 2 [(0, .ref ob), (1, .ref ax)] := hl
  refine lv_aload_n hx hb dX0_become_0 rfl (lv_at hl 0 rfl) ?_
  refine lv_aload_n hx hb dX0_become_1 rfl (lv_at hl 1 rfl) ?_
  refine va_get (D := D) (ci := 0) (v := .int axv0) (C := RX0) (T := TX0) (N := 4) hx hb hts iT_X0 hown hK hP 4 rfl rfl 0 (by decide) (hts _ tw_1_48) (fun _ h9 => h9) rfl dX0_become_2 ?_
  refine va_put (D := D) (ci := 0) (v := .int axv0) (ty := tyX0 0) (C := RX0) (T := TX0) (N := 4) hx hb hts iT_X0 tyX0 tyX0_ok nmX0 hown hK hP hD hS 0 rfl rfl 0 (by decide) (hts _ tw_1_48) (fun _ h9 => h9) rfl (tyX0_ok 0 (by decide)) rfl rfl (Nat.le_of_ble_eq_true rfl) dX0_become_5 (fun H locs hP hD hS => ?_)
  have hP : va_P D vwCl [(ob, .inr (0, [.int axv0, .ref ob_1, .ref ob_2, .ref ob_3])), (ob_1, .inl (k 0, 40, .inl obg1)), (ob_2, .inl (k 0, 40, .inl obg2)), (ob_3, .inl (k 0, 40, .inl obg3)), (ax, .inr (0, [.int axv0, .ref ax_1, .ref ax_2, .ref ax_3])), (ax_1, .inl (k 0, 40, .inl axg1)), (ax_2, .inl (k 0, 40, .inl axg2)), (ax_3, .inl (k 0, 40, .inl axg3))] H := hP
  have hD : va_D A [(ob, .inr (0, [.int axv0, .ref ob_1, .ref ob_2, .ref ob_3])), (ob_1, .inl (k 0, 40, .inl obg1)), (ob_2, .inl (k 0, 40, .inl obg2)), (ob_3, .inl (k 0, 40, .inl obg3)), (ax, .inr (0, [.int axv0, .ref ax_1, .ref ax_2, .ref ax_3])), (ax_1, .inl (k 0, 40, .inl axg1)), (ax_2, .inl (k 0, 40, .inl axg2)), (ax_3, .inl (k 0, 40, .inl axg3))] := hD
  refine lv_aload_n hx hb dX0_become_8 rfl (lv_at hl 1 rfl) ?_
  refine va_get (D := D) (ci := 0) (v := .ref ax_1) (C := RX0) (T := TX0) (N := 4) hx hb hts iT_X0 hown hK hP 4 rfl rfl 1 (by decide) (hts _ tw_1_51) (fun _ h9 => h9) rfl dX0_become_9 ?_
  refine lv_iconst (v := 0) hx hb dX0_become_12 (by decide) ?_
  refine lv_aload_n hx hb dX0_become_13 rfl (lv_at hl 0 rfl) ?_
  refine va_get (D := D) (ci := 0) (v := .ref ob_1) (C := RX0) (T := TX0) (N := 4) hx hb hts iT_X0 hown hK hP 0 rfl rfl 1 (by decide) (hts _ tw_1_51) (fun _ h9 => h9) rfl dX0_become_14 ?_
  refine lv_iconst (v := 0) hx hb dX0_become_17 (by decide) ?_
  refine lv_bipush (v := 40) hx hb dX0_become_18 (by decide) ?_
  refine va_copyi (ty := .int) hx hb (by rw [hml]; exact hl.1.symm) hown (hts _ tw_6_7) (hts _ tw_4_178) (hts _ tw_4_177) (hts _ tw_1_21) hK hP hD hS 5 1 0 0 rfl rfl rfl rfl rfl (sp := 0) (dp := 0) (n := 40) (by decide) (by decide) (by decide) (by decide) (by decide) (fun _ _ => rfl) (Nat.le_of_ble_eq_true rfl) (Nat.le_of_ble_eq_true rfl) dX0_become_20 (fun H locs hP hD hS => ?_)
  have hP : va_P D vwCl [(ob, .inr (0, [.int axv0, .ref ob_1, .ref ob_2, .ref ob_3])), (ob_1, .inl (k 0, 40, .inl (va_cpy axg1 obg1 0 0 40))), (ob_2, .inl (k 0, 40, .inl obg2)), (ob_3, .inl (k 0, 40, .inl obg3)), (ax, .inr (0, [.int axv0, .ref ax_1, .ref ax_2, .ref ax_3])), (ax_1, .inl (k 0, 40, .inl axg1)), (ax_2, .inl (k 0, 40, .inl axg2)), (ax_3, .inl (k 0, 40, .inl axg3))] H := hP
  have hD : va_D A [(ob, .inr (0, [.int axv0, .ref ob_1, .ref ob_2, .ref ob_3])), (ob_1, .inl (k 0, 40, .inl (va_cpy axg1 obg1 0 0 40))), (ob_2, .inl (k 0, 40, .inl obg2)), (ob_3, .inl (k 0, 40, .inl obg3)), (ax, .inr (0, [.int axv0, .ref ax_1, .ref ax_2, .ref ax_3])), (ax_1, .inl (k 0, 40, .inl axg1)), (ax_2, .inl (k 0, 40, .inl axg2)), (ax_3, .inl (k 0, 40, .inl axg3))] := hD
  obtain ⟨g_1, eg_1⟩ : ∃ z : Nat → Int32, va_cpy axg1 obg1 0 0 40 = z := ⟨_, rfl⟩
  rw [eg_1] at hP hD
  refine lv_aload_n hx hb dX0_become_23 rfl (lv_at hl 1 rfl) ?_
  refine va_get (D := D) (ci := 0) (v := .ref ax_2) (C := RX0) (T := TX0) (N := 4) hx hb hts iT_X0 hown hK hP 4 rfl rfl 2 (by decide) (hts _ tw_1_53) (fun _ h9 => h9) rfl dX0_become_24 ?_
  refine lv_iconst (v := 0) hx hb dX0_become_27 (by decide) ?_
  refine lv_aload_n hx hb dX0_become_28 rfl (lv_at hl 0 rfl) ?_
  refine va_get (D := D) (ci := 0) (v := .ref ob_2) (C := RX0) (T := TX0) (N := 4) hx hb hts iT_X0 hown hK hP 0 rfl rfl 2 (by decide) (hts _ tw_1_53) (fun _ h9 => h9) rfl dX0_become_29 ?_
  refine lv_iconst (v := 0) hx hb dX0_become_32 (by decide) ?_
  refine lv_bipush (v := 40) hx hb dX0_become_33 (by decide) ?_
  refine va_copyi (ty := .int) hx hb (by rw [hml]; exact hl.1.symm) hown (hts _ tw_6_7) (hts _ tw_4_178) (hts _ tw_4_177) (hts _ tw_1_21) hK hP hD hS 6 2 0 0 rfl rfl rfl rfl rfl (sp := 0) (dp := 0) (n := 40) (by decide) (by decide) (by decide) (by decide) (by decide) (fun _ _ => rfl) (Nat.le_of_ble_eq_true rfl) (Nat.le_of_ble_eq_true rfl) dX0_become_35 (fun H locs hP hD hS => ?_)
  have hP : va_P D vwCl [(ob, .inr (0, [.int axv0, .ref ob_1, .ref ob_2, .ref ob_3])), (ob_1, .inl (k 0, 40, .inl g_1)), (ob_2, .inl (k 0, 40, .inl (va_cpy axg2 obg2 0 0 40))), (ob_3, .inl (k 0, 40, .inl obg3)), (ax, .inr (0, [.int axv0, .ref ax_1, .ref ax_2, .ref ax_3])), (ax_1, .inl (k 0, 40, .inl axg1)), (ax_2, .inl (k 0, 40, .inl axg2)), (ax_3, .inl (k 0, 40, .inl axg3))] H := hP
  have hD : va_D A [(ob, .inr (0, [.int axv0, .ref ob_1, .ref ob_2, .ref ob_3])), (ob_1, .inl (k 0, 40, .inl g_1)), (ob_2, .inl (k 0, 40, .inl (va_cpy axg2 obg2 0 0 40))), (ob_3, .inl (k 0, 40, .inl obg3)), (ax, .inr (0, [.int axv0, .ref ax_1, .ref ax_2, .ref ax_3])), (ax_1, .inl (k 0, 40, .inl axg1)), (ax_2, .inl (k 0, 40, .inl axg2)), (ax_3, .inl (k 0, 40, .inl axg3))] := hD
  obtain ⟨g_2, eg_2⟩ : ∃ z : Nat → Int32, va_cpy axg2 obg2 0 0 40 = z := ⟨_, rfl⟩
  rw [eg_2] at hP hD
  refine lv_aload_n hx hb dX0_become_38 rfl (lv_at hl 1 rfl) ?_
  refine va_get (D := D) (ci := 0) (v := .ref ax_3) (C := RX0) (T := TX0) (N := 4) hx hb hts iT_X0 hown hK hP 4 rfl rfl 3 (by decide) (hts _ tw_1_55) (fun _ h9 => h9) rfl dX0_become_39 ?_
  refine lv_iconst (v := 0) hx hb dX0_become_42 (by decide) ?_
  refine lv_aload_n hx hb dX0_become_43 rfl (lv_at hl 0 rfl) ?_
  refine va_get (D := D) (ci := 0) (v := .ref ob_3) (C := RX0) (T := TX0) (N := 4) hx hb hts iT_X0 hown hK hP 0 rfl rfl 3 (by decide) (hts _ tw_1_55) (fun _ h9 => h9) rfl dX0_become_44 ?_
  refine lv_iconst (v := 0) hx hb dX0_become_47 (by decide) ?_
  refine lv_bipush (v := 40) hx hb dX0_become_48 (by decide) ?_
  refine va_copyi (ty := .int) hx hb (by rw [hml]; exact hl.1.symm) hown (hts _ tw_6_7) (hts _ tw_4_178) (hts _ tw_4_177) (hts _ tw_1_21) hK hP hD hS 7 3 0 0 rfl rfl rfl rfl rfl (sp := 0) (dp := 0) (n := 40) (by decide) (by decide) (by decide) (by decide) (by decide) (fun _ _ => rfl) (Nat.le_of_ble_eq_true rfl) (Nat.le_of_ble_eq_true rfl) dX0_become_50 (fun H locs hP hD hS => ?_)
  have hP : va_P D vwCl [(ob, .inr (0, [.int axv0, .ref ob_1, .ref ob_2, .ref ob_3])), (ob_1, .inl (k 0, 40, .inl g_1)), (ob_2, .inl (k 0, 40, .inl g_2)), (ob_3, .inl (k 0, 40, .inl (va_cpy axg3 obg3 0 0 40))), (ax, .inr (0, [.int axv0, .ref ax_1, .ref ax_2, .ref ax_3])), (ax_1, .inl (k 0, 40, .inl axg1)), (ax_2, .inl (k 0, 40, .inl axg2)), (ax_3, .inl (k 0, 40, .inl axg3))] H := hP
  have hD : va_D A [(ob, .inr (0, [.int axv0, .ref ob_1, .ref ob_2, .ref ob_3])), (ob_1, .inl (k 0, 40, .inl g_1)), (ob_2, .inl (k 0, 40, .inl g_2)), (ob_3, .inl (k 0, 40, .inl (va_cpy axg3 obg3 0 0 40))), (ax, .inr (0, [.int axv0, .ref ax_1, .ref ax_2, .ref ax_3])), (ax_1, .inl (k 0, 40, .inl axg1)), (ax_2, .inl (k 0, 40, .inl axg2)), (ax_3, .inl (k 0, 40, .inl axg3))] := hD
  obtain ⟨g_3, eg_3⟩ : ∃ z : Nat → Int32, va_cpy axg3 obg3 0 0 40 = z := ⟨_, rfl⟩
  rw [eg_3] at hP hD
  have hp_4 : PR 40 1 0 0 99 g_3 := by rw [← eg_3]; exact PR.cpy hp_axg3_0 hp_obg3_0 (by decide)
  obtain ⟨hP9, hD9⟩ := sub2 hP hD (ws' := [(ob, .inr (0, [.int axv0, .ref ob_1, .ref ob_2, .ref ob_3])), (ob_1, .inl (k 0, 40, .inl g_1)), (ob_2, .inl (k 0, 40, .inl g_2)), (ob_3, .inl (k 0, 40, .inl g_3)), (ax, .inr (0, [.int axv0, .ref ax_1, .ref ax_2, .ref ax_3])), (ax_1, .inl (k 0, 40, .inl axg1)), (ax_2, .inl (k 0, 40, .inl axg2)), (ax_3, .inl (k 0, 40, .inl axg3))]) [0, 1, 2, 3, 4, 5, 6, 7] (by decide +kernel) rfl
  exact W.vret hx hb hr (fun tZ ht hW => ⟨⟨(axv0, g_1, g_2, g_3), rfl, ⟨(show 0 ≤ axv0.toInt ∧ axv0.toInt ≤ 40 from by omega), hp_4⟩, by rw [ht]; exact hP9, va_K.moved hW.alike hK, hD9⟩, hS.F ht⟩) hS.2.2 dX0_become_53
set_option maxHeartbeats 4000000 in
set_option maxRecDepth 100000 in
theorem c_X10_openLanes (l : Launch) (D : va_G) (k : Nat → ClassId) (ob : Nat) (obv0 : Int32) (obv1 : Int32) (obv2 : Int32) (ob_3 : Nat) (ob_4 : Nat) (ob_5 : Nat) (ob_6 : Nat) (obv7 : Int32) (obv8 : Int32) (ob_9 : Nat) (ob_10 : Nat) (obv11 : Int32) (ob_12 : Nat) (ob_13 : Nat) (ob_14 : Nat) (ob_15 : Nat) (obv16 : Int32) (ob_17 : Nat) (ob_18 : Nat) (obt : Nat) (sz : Nat) (h_obv0 : 0 ≤ obv0.toInt ∧ obv0.toInt ≤ 8) (h_obv2 : 0 ≤ obv2.toInt ∧ obv2.toInt ≤ 10) (h_obv8 : 0 ≤ obv8.toInt ∧ obv8.toInt ≤ 4) (h_obv11 : 0 ≤ obv11.toInt ∧ obv11.toInt ≤ 6) (h_obv16 : 0 ≤ obv16.toInt ∧ obv16.toInt ≤ 2) : Met l yX10_openLanes (ww yX10_openLanes cX10_openLanes 1 (some .int)) ({ frames := 0, cells := 0, slots := 0, locals := 0 }) (Pre0 D k [(ob, .inr (10, [.int obv0, .int obv1, .int obv2, .ref ob_3, .ref ob_4, .ref ob_5, .ref ob_6, .int obv7, .int obv8, .ref ob_9, .ref ob_10, .int obv11, .ref ob_12, .ref ob_13, .ref ob_14, .ref ob_15, .int obv16, .ref ob_17, .ref ob_18, .ref obt]))] sz [.ref ob]) (va_Qi (fun (r : Int32) (_ : Unit) => (0 ≤ r.toInt ∧ r.toInt ≤ 1023)) (fun (_ : Unit) tZ => Bw D k (va_A [(ob, .inr (10, [.int obv0, .int obv1, .int obv2, .ref ob_3, .ref ob_4, .ref ob_5, .ref ob_6, .int obv7, .int obv8, .ref ob_9, .ref ob_10, .int obv11, .ref ob_12, .ref ob_13, .ref ob_14, .ref ob_15, .int obv16, .ref ob_17, .ref ob_18, .ref obt]))] sz) [(ob, .inr (10, [.int obv0, .int obv1, .int obv2, .ref ob_3, .ref ob_4, .ref ob_5, .ref ob_6, .int obv7, .int obv8, .ref ob_9, .ref ob_10, .int obv11, .ref ob_12, .ref ob_13, .ref ob_14, .ref ob_15, .int obv16, .ref ob_17, .ref ob_18, .ref obt]))] tZ) (va_A [(ob, .inr (10, [.int obv0, .int obv1, .int obv2, .ref ob_3, .ref ob_4, .ref ob_5, .ref ob_6, .int obv7, .int obv8, .ref ob_9, .ref ob_10, .int obv11, .ref ob_12, .ref ob_13, .ref ob_14, .ref ob_15, .int obv16, .ref ob_17, .ref ob_18, .ref obt]))] sz)) 0 0 (va_A [(ob, .inr (10, [.int obv0, .int obv1, .int obv2, .ref ob_3, .ref ob_4, .ref ob_5, .ref ob_6, .int obv7, .int obv8, .ref ob_9, .ref ob_10, .int obv11, .ref ob_12, .ref ob_13, .ref ob_14, .ref ob_15, .int obv16, .ref ob_17, .ref ob_18, .ref obt]))] sz) := by
  refine Met.ofW (cc := cX10_openLanes) (maxL := 1) (ret := (some .int)) (by decide +kernel) rfl ?_
  intro p e s m args below meth c s₁ B hml hv
  obtain ⟨rfl, hsz, hP, hK, hD0, hN⟩ := hv
  have hx := B.exec
  have hb := B.bytes
  have hr := B.returns
  have hts : ∀ w ∈ TT, w.before _ s = true := fun w h => atoms_spec (ws := ww yX10_openLanes cX10_openLanes 1 (some .int)) B.pre w (List.mem_cons_of_mem _ h)
  have hown : s.vm.findClass RX10 = some m.cls := findClass_of_methodNamed B.named
  have hlocks := B.notSynchronized
  subst hsz
  have hD := hD0.self (sz := s.heap.size)
  generalize hAe : va_A [(ob, .inr (10, [.int obv0, .int obv1, .int obv2, .ref ob_3, .ref ob_4, .ref ob_5, .ref ob_6, .int obv7, .int obv8, .ref ob_9, .ref ob_10, .int obv11, .ref ob_12, .ref ob_13, .ref ob_14, .ref ob_15, .int obv16, .ref ob_17, .ref ob_18, .ref obt]))] s.heap.size = A at hD ⊢
  have hA : ∀ q : Nat, s.heap.size ≤ q → A q := fun q h => by rw [← hAe]; exact Or.inr h
  have hS : va_S A s.heap s.heap [] := va_S.rf
  have hl := lv_entry ([.ref ob]) (n := 1) (Nat.le_of_ble_eq_true rfl)
  rw [lg_entry_eq]
  generalize (lg_sl ([.ref ob]) ++ List.replicate (1 - (lg_sl ([.ref ob])).length) Slot.unset).toArray = ls at hl ⊢
  have hl : lv_has ls 1 [(0, .ref ob)] := hl
  refine lv_iconst (v := 1) hx hb dX10_openLanes_0 (by decide) ?_
  refine lv_aload_n hx hb dX10_openLanes_1 rfl (lv_at hl 0 rfl) ?_
  refine va_get (D := D) (ci := 10) (v := .int obv2) (C := RX10) (T := TX10) (N := 20) hx hb hts iT_X10 hown hK hP 0 rfl rfl 2 (by decide) (hts _ tw_1_77) (fun _ h9 => h9) rfl dX10_openLanes_2 ?_
  refine lv_ishl hx hb dX10_openLanes_5 ?_
  refine lv_topi (fun x_1 ex_1 => ?_)
  have zx_1 : 1 ≤ x_1.toInt ∧ x_1.toInt ≤ 1024 := by rw [ex_1]; exact z_shl1 10 1024 rfl (by decide) (by omega) (by omega)
  refine lv_iconst (v := 1) hx hb dX10_openLanes_6 (by decide) ?_
  refine lv_isub hx hb dX10_openLanes_7 ?_
  refine lv_topi (fun x_2 ex_2 => ?_)
  have zx_2 : x_2.toInt = x_1.toInt - 1 := by rw [ex_2]; exact z_sub rfl rfl (by omega) (by omega)
  refine lv_aload_n hx hb dX10_openLanes_8 rfl (lv_at hl 0 rfl) ?_
  refine va_get (D := D) (ci := 10) (v := .int obv7) (C := RX10) (T := TX10) (N := 20) hx hb hts iT_X10 hown hK hP 0 rfl rfl 7 (by decide) (hts _ tw_1_101) (fun _ h9 => h9) rfl dX10_openLanes_9 ?_
  refine lv_iconst (v := (-1)) hx hb dX10_openLanes_12 (by decide) ?_
  refine lv_ixor hx hb dX10_openLanes_13 ?_
  refine lv_topi (fun x_3 ex_3 => ?_)
  have zrobv7 := z_rng obv7
  refine lv_iand hx hb dX10_openLanes_14 ?_
  refine lv_topi (fun x_4 ex_4 => ?_)
  have zrx_3 := z_rng x_3
  have zx_4 : 0 ≤ x_4.toInt ∧ x_4.toInt ≤ x_2.toInt := by rw [ex_4]; exact z_andL (by omega)
  obtain ⟨hP9, hD9⟩ := sub2 hP hD (ws' := [(ob, .inr (10, [.int obv0, .int obv1, .int obv2, .ref ob_3, .ref ob_4, .ref ob_5, .ref ob_6, .int obv7, .int obv8, .ref ob_9, .ref ob_10, .int obv11, .ref ob_12, .ref ob_13, .ref ob_14, .ref ob_15, .int obv16, .ref ob_17, .ref ob_18, .ref obt]))]) [0] (by decide +kernel) rfl
  exact W.iret (v := x_4) hx hb hr (fun tZ ht hW => ⟨⟨x_4, (), rfl, (show 0 ≤ x_4.toInt ∧ x_4.toInt ≤ 1023 from by omega), by rw [ht]; exact hP9, va_K.moved hW.alike hK, hD9⟩, hS.F ht⟩) hS.2.2 dX10_openLanes_15
set_option maxHeartbeats 4000000 in
set_option maxRecDepth 100000 in
theorem c_J7_fill_53178_0 (l : Launch) (D : va_G) (k : Nat → ClassId) (p0 : Nat) (f0 : Nat → Int32) (sz : Nat) : Met l yJ7_fill_53178 (ww yJ7_fill_53178 cJ7_fill_53178 4 none) ({ frames := 0, cells := 0, slots := 0, locals := 0 }) (Pre0 D k [(p0, .inl (k 0, 8, .inl f0))] sz [.ref p0, .int 1000000]) (va_Qv (fun (f0z : (Nat → Int32)) => (PR 8 1 0 0 1000000 f0z)) (fun (f0z : (Nat → Int32)) tZ => Bw D k (va_A [(p0, .inl (k 0, 8, .inl f0))] sz) [(p0, .inl (k 0, 8, .inl f0z))] tZ) (va_A [(p0, .inl (k 0, 8, .inl f0))] sz)) 0 0 (va_A [(p0, .inl (k 0, 8, .inl f0))] sz) := by
  refine Met.ofW (cc := cJ7_fill_53178) (maxL := 4) (ret := none) (by decide +kernel) rfl ?_
  intro p e s m args below meth c s₁ B hml hv
  obtain ⟨rfl, hsz, hP, hK, hD0, hN⟩ := hv
  have hx := B.exec
  have hb := B.bytes
  have hr := B.returns
  have hts : ∀ w ∈ TT, w.before _ s = true := fun w h => atoms_spec (ws := ww yJ7_fill_53178 cJ7_fill_53178 4 none) B.pre w (List.mem_cons_of_mem _ h)
  have hown : s.vm.findClass RJ7 = some m.cls := findClass_of_methodNamed B.named
  have hlocks := B.notSynchronized
  subst hsz
  have hD := hD0.self (sz := s.heap.size)
  generalize hAe : va_A [(p0, .inl (k 0, 8, .inl f0))] s.heap.size = A at hD ⊢
  have hA : ∀ q : Nat, s.heap.size ≤ q → A q := fun q h => by rw [← hAe]; exact Or.inr h
  have hS : va_S A s.heap s.heap [] := va_S.rf
  have hl := lv_entry ([.ref p0, .int 1000000]) (n := 4) (Nat.le_of_ble_eq_true rfl)
  rw [lg_entry_eq]
  generalize (lg_sl ([.ref p0, .int 1000000]) ++ List.replicate (4 - (lg_sl ([.ref p0, .int 1000000])).length) Slot.unset).toArray = ls at hl ⊢
  have hl : lv_has ls 4 [(0, .ref p0), (1, .int 1000000)] := hl
  refine lv_iconst (v := 0) hx hb dJ7_fill_53178_0 (by decide) ?_
  refine lv_istore_n (lv' := [(2, .int 0), (0, .ref p0), (1, .int 1000000)]) hx hb dJ7_fill_53178_1 rfl hl (by decide) rfl (fun ls hl => ?_)
  refine lv_aload_n hx hb dJ7_fill_53178_2 rfl (lv_at hl 1 rfl) ?_
  refine va_alen (v := 8) hx hb hK hP 0 0 rfl rfl (show Int32.ofNat 8 = 8 from by decide) dJ7_fill_53178_3 ?_
  refine lv_istore_n (lv' := [(3, .int 8), (2, .int 0), (0, .ref p0), (1, .int 1000000)]) hx hb dJ7_fill_53178_4 rfl hl (by decide) rfl (fun ls hl => ?_)
  refine loop_r (Wg := fun H locs ls => W p l e _ s m _ below meth c H locs _ _ _ (F0 m 5 ls [])) (fun n9 H locs ls => ∃ (L5l2 : Int32) (L5a0 : Nat → Int32), n9 = (8 - L5l2.toInt).toNat ∧ (0 ≤ L5l2.toInt ∧ L5l2.toInt ≤ 8) ∧ (FV L5l2.toInt 1000000 L5a0) ∧ va_P D vwCl [(p0, .inl (k 0, 8, .inl L5a0))] H ∧ va_D A [(p0, .inl (k 0, 8, .inl L5a0))] ∧ va_S A s.heap H locs ∧ lv_has ls 4 [(0, .ref p0), (1, .int 1000000), (2, .int L5l2), (3, .int 8)]) (fun n9 H locs ls hI ih_1 => ?_) _ _ _ _ ⟨0, f0, rfl, (show 0 ≤ 0 ∧ 0 ≤ 8 from by omega), (FV.zero _ _), hP.sub (ws' := [(p0, .inl (k 0, 8, .inl f0))]) [0] rfl, hD.sub (ws' := [(p0, .inl (k 0, 8, .inl f0))]) [0] (by decide +kernel) rfl, hS, lv_sub hl [2, 3, 1, 0] rfl⟩
  clear hP hD hS hl
  obtain ⟨L5l2, L5a0, en_2, zL5l2, hi5x0, hP, hD, hS, hl⟩ := hI
  refine lv_iload_n hx hb dJ7_fill_53178_5 rfl (lv_at hl 2 rfl) ?_
  refine lv_iload_n hx hb dJ7_fill_53178_6 rfl (lv_at hl 3 rfl) ?_
  refine lv_icmp_ge (tgt := 20) hx hb dJ7_fill_53178_7 (by decide) (fun h_3 => ?_) (fun h_3 => ?_)
  · skip
    have zh_3 : 8 ≤ L5l2.toInt := z_le h_3
    obtain ⟨hP9, hD9⟩ := sub2 hP hD (ws' := [(p0, .inl (k 0, 8, .inl L5a0))]) [0] (by decide +kernel) rfl
    exact W.vret hx hb hr (fun tZ ht hW => ⟨⟨L5a0, rfl, (FV.pr hi5x0 (by omega) (by decide) (by decide)), by rw [ht]; exact hP9, va_K.moved hW.alike hK, hD9⟩, hS.F ht⟩) hS.2.2 dJ7_fill_53178_20
  · skip
    have zh_3 : L5l2.toInt < 8 := z_nle h_3
    refine lv_aload_n hx hb dJ7_fill_53178_10 rfl (lv_at hl 0 rfl) ?_
    refine lv_iload_n hx hb dJ7_fill_53178_11 rfl (lv_at hl 2 rfl) ?_
    refine lv_iload_n hx hb dJ7_fill_53178_12 rfl (lv_at hl 1 rfl) ?_
    refine va_iast hx hb hK hP hD hS 0 0 rfl rfl (z_in (by omega) (by omega)) dJ7_fill_53178_13 (fun H locs hP hD hS => ?_)
    obtain ⟨g_4, eg_4⟩ : ∃ z : Nat → Int32, upd L5a0 L5l2.toNatClampNeg 1000000 = z := ⟨_, rfl⟩
    have hP : va_P D vwCl [(p0, .inl (k 0, 8, .inl (upd L5a0 L5l2.toNatClampNeg 1000000)))] H := hP
    have hD : va_D A [(p0, .inl (k 0, 8, .inl (upd L5a0 L5l2.toNatClampNeg 1000000)))] := hD
    rw [eg_4] at hP hD
    obtain ⟨x_5, ex_5⟩ : ∃ y : Int32, y = L5l2 + 1 := ⟨_, rfl⟩
    have zx_5 : x_5.toInt = L5l2.toInt + 1 := by rw [ex_5]; exact z_add rfl rfl (by omega) (by omega)
    refine lv_iinc (v := x_5) (lv' := [(2, .int x_5), (0, .ref p0), (1, .int 1000000), (3, .int 8)]) hx hb dJ7_fill_53178_14 hl (k := 2) rfl (by rw [ex_5]; rfl) (by decide) rfl (fun ls hl => ?_)
    refine lv_goto (tgt := 5) hx hb dJ7_fill_53178_17 (by decide) ?_
    exact ih_1 _ _ _ _ (by omega) ⟨x_5, g_4, rfl, (show 0 ≤ x_5.toInt ∧ x_5.toInt ≤ 8 from by omega), (show FV x_5.toInt 1000000 g_4 from by rw [← eg_4]; exact FV.step hi5x0 (b := L5l2) (by omega) (by omega) (by omega)), hP.sub (ws' := [(p0, .inl (k 0, 8, .inl g_4))]) [0] rfl, hD.sub (ws' := [(p0, .inl (k 0, 8, .inl g_4))]) [0] (by decide +kernel) rfl, hS, lv_sub hl [1, 2, 0, 3] rfl⟩
set_option maxHeartbeats 4000000 in
set_option maxRecDepth 100000 in
theorem c_J7_fill_53178_1 (l : Launch) (D : va_G) (k : Nat → ClassId) (p0 : Nat) (f0 : Nat → Int32) (sz : Nat) : Met l yJ7_fill_53178 (ww yJ7_fill_53178 cJ7_fill_53178 4 none) ({ frames := 0, cells := 0, slots := 0, locals := 0 }) (Pre0 D k [(p0, .inl (k 0, 8, .inl f0))] sz [.ref p0, .int (-1)]) (va_Qv (fun (f0z : (Nat → Int32)) => (PR 8 1 0 (-1) (-1) f0z)) (fun (f0z : (Nat → Int32)) tZ => Bw D k (va_A [(p0, .inl (k 0, 8, .inl f0))] sz) [(p0, .inl (k 0, 8, .inl f0z))] tZ) (va_A [(p0, .inl (k 0, 8, .inl f0))] sz)) 0 0 (va_A [(p0, .inl (k 0, 8, .inl f0))] sz) := by
  refine Met.ofW (cc := cJ7_fill_53178) (maxL := 4) (ret := none) (by decide +kernel) rfl ?_
  intro p e s m args below meth c s₁ B hml hv
  obtain ⟨rfl, hsz, hP, hK, hD0, hN⟩ := hv
  have hx := B.exec
  have hb := B.bytes
  have hr := B.returns
  have hts : ∀ w ∈ TT, w.before _ s = true := fun w h => atoms_spec (ws := ww yJ7_fill_53178 cJ7_fill_53178 4 none) B.pre w (List.mem_cons_of_mem _ h)
  have hown : s.vm.findClass RJ7 = some m.cls := findClass_of_methodNamed B.named
  have hlocks := B.notSynchronized
  subst hsz
  have hD := hD0.self (sz := s.heap.size)
  generalize hAe : va_A [(p0, .inl (k 0, 8, .inl f0))] s.heap.size = A at hD ⊢
  have hA : ∀ q : Nat, s.heap.size ≤ q → A q := fun q h => by rw [← hAe]; exact Or.inr h
  have hS : va_S A s.heap s.heap [] := va_S.rf
  have hl := lv_entry ([.ref p0, .int (-1)]) (n := 4) (Nat.le_of_ble_eq_true rfl)
  rw [lg_entry_eq]
  generalize (lg_sl ([.ref p0, .int (-1)]) ++ List.replicate (4 - (lg_sl ([.ref p0, .int (-1)])).length) Slot.unset).toArray = ls at hl ⊢
  have hl : lv_has ls 4 [(0, .ref p0), (1, .int (-1))] := hl
  refine lv_iconst (v := 0) hx hb dJ7_fill_53178_0 (by decide) ?_
  refine lv_istore_n (lv' := [(2, .int 0), (0, .ref p0), (1, .int (-1))]) hx hb dJ7_fill_53178_1 rfl hl (by decide) rfl (fun ls hl => ?_)
  refine lv_aload_n hx hb dJ7_fill_53178_2 rfl (lv_at hl 1 rfl) ?_
  refine va_alen (v := 8) hx hb hK hP 0 0 rfl rfl (show Int32.ofNat 8 = 8 from by decide) dJ7_fill_53178_3 ?_
  refine lv_istore_n (lv' := [(3, .int 8), (2, .int 0), (0, .ref p0), (1, .int (-1))]) hx hb dJ7_fill_53178_4 rfl hl (by decide) rfl (fun ls hl => ?_)
  refine loop_r (Wg := fun H locs ls => W p l e _ s m _ below meth c H locs _ _ _ (F0 m 5 ls [])) (fun n9 H locs ls => ∃ (L5l2 : Int32) (L5a0 : Nat → Int32), n9 = (8 - L5l2.toInt).toNat ∧ (0 ≤ L5l2.toInt ∧ L5l2.toInt ≤ 8) ∧ (FV L5l2.toInt (-1) L5a0) ∧ va_P D vwCl [(p0, .inl (k 0, 8, .inl L5a0))] H ∧ va_D A [(p0, .inl (k 0, 8, .inl L5a0))] ∧ va_S A s.heap H locs ∧ lv_has ls 4 [(0, .ref p0), (1, .int (-1)), (2, .int L5l2), (3, .int 8)]) (fun n9 H locs ls hI ih_1 => ?_) _ _ _ _ ⟨0, f0, rfl, (show 0 ≤ 0 ∧ 0 ≤ 8 from by omega), (FV.zero _ _), hP.sub (ws' := [(p0, .inl (k 0, 8, .inl f0))]) [0] rfl, hD.sub (ws' := [(p0, .inl (k 0, 8, .inl f0))]) [0] (by decide +kernel) rfl, hS, lv_sub hl [2, 3, 1, 0] rfl⟩
  clear hP hD hS hl
  obtain ⟨L5l2, L5a0, en_2, zL5l2, hi5x0, hP, hD, hS, hl⟩ := hI
  refine lv_iload_n hx hb dJ7_fill_53178_5 rfl (lv_at hl 2 rfl) ?_
  refine lv_iload_n hx hb dJ7_fill_53178_6 rfl (lv_at hl 3 rfl) ?_
  refine lv_icmp_ge (tgt := 20) hx hb dJ7_fill_53178_7 (by decide) (fun h_3 => ?_) (fun h_3 => ?_)
  · skip
    have zh_3 : 8 ≤ L5l2.toInt := z_le h_3
    obtain ⟨hP9, hD9⟩ := sub2 hP hD (ws' := [(p0, .inl (k 0, 8, .inl L5a0))]) [0] (by decide +kernel) rfl
    exact W.vret hx hb hr (fun tZ ht hW => ⟨⟨L5a0, rfl, (FV.pr hi5x0 (by omega) (by decide) (by decide)), by rw [ht]; exact hP9, va_K.moved hW.alike hK, hD9⟩, hS.F ht⟩) hS.2.2 dJ7_fill_53178_20
  · skip
    have zh_3 : L5l2.toInt < 8 := z_nle h_3
    refine lv_aload_n hx hb dJ7_fill_53178_10 rfl (lv_at hl 0 rfl) ?_
    refine lv_iload_n hx hb dJ7_fill_53178_11 rfl (lv_at hl 2 rfl) ?_
    refine lv_iload_n hx hb dJ7_fill_53178_12 rfl (lv_at hl 1 rfl) ?_
    refine va_iast hx hb hK hP hD hS 0 0 rfl rfl (z_in (by omega) (by omega)) dJ7_fill_53178_13 (fun H locs hP hD hS => ?_)
    obtain ⟨g_4, eg_4⟩ : ∃ z : Nat → Int32, upd L5a0 L5l2.toNatClampNeg (-1) = z := ⟨_, rfl⟩
    have hP : va_P D vwCl [(p0, .inl (k 0, 8, .inl (upd L5a0 L5l2.toNatClampNeg (-1))))] H := hP
    have hD : va_D A [(p0, .inl (k 0, 8, .inl (upd L5a0 L5l2.toNatClampNeg (-1))))] := hD
    rw [eg_4] at hP hD
    obtain ⟨x_5, ex_5⟩ : ∃ y : Int32, y = L5l2 + 1 := ⟨_, rfl⟩
    have zx_5 : x_5.toInt = L5l2.toInt + 1 := by rw [ex_5]; exact z_add rfl rfl (by omega) (by omega)
    refine lv_iinc (v := x_5) (lv' := [(2, .int x_5), (0, .ref p0), (1, .int (-1)), (3, .int 8)]) hx hb dJ7_fill_53178_14 hl (k := 2) rfl (by rw [ex_5]; rfl) (by decide) rfl (fun ls hl => ?_)
    refine lv_goto (tgt := 5) hx hb dJ7_fill_53178_17 (by decide) ?_
    exact ih_1 _ _ _ _ (by omega) ⟨x_5, g_4, rfl, (show 0 ≤ x_5.toInt ∧ x_5.toInt ≤ 8 from by omega), (show FV x_5.toInt (-1) g_4 from by rw [← eg_4]; exact FV.step hi5x0 (b := L5l2) (by omega) (by omega) (by omega)), hP.sub (ws' := [(p0, .inl (k 0, 8, .inl g_4))]) [0] rfl, hD.sub (ws' := [(p0, .inl (k 0, 8, .inl g_4))]) [0] (by decide +kernel) rfl, hS, lv_sub hl [1, 2, 0, 3] rfl⟩
set_option maxHeartbeats 4000000 in
set_option maxRecDepth 100000 in
theorem c_J7_fill_53178_2 (l : Launch) (D : va_G) (k : Nat → ClassId) (p0 : Nat) (p1 : Int32) (f0 : Nat → Int32) (sz : Nat) (h_p1 : 1 ≤ p1.toInt ∧ p1.toInt ≤ 99) : Met l yJ7_fill_53178 (ww yJ7_fill_53178 cJ7_fill_53178 4 none) ({ frames := 0, cells := 0, slots := 0, locals := 0 }) (Pre0 D k [(p0, .inl (k 0, 6, .inl f0))] sz [.ref p0, .int p1]) (va_Qv (fun (f0z : (Nat → Int32)) => (PR 6 1 0 1 99 f0z)) (fun (f0z : (Nat → Int32)) tZ => Bw D k (va_A [(p0, .inl (k 0, 6, .inl f0))] sz) [(p0, .inl (k 0, 6, .inl f0z))] tZ) (va_A [(p0, .inl (k 0, 6, .inl f0))] sz)) 0 0 (va_A [(p0, .inl (k 0, 6, .inl f0))] sz) := by
  refine Met.ofW (cc := cJ7_fill_53178) (maxL := 4) (ret := none) (by decide +kernel) rfl ?_
  intro p e s m args below meth c s₁ B hml hv
  obtain ⟨rfl, hsz, hP, hK, hD0, hN⟩ := hv
  have hx := B.exec
  have hb := B.bytes
  have hr := B.returns
  have hts : ∀ w ∈ TT, w.before _ s = true := fun w h => atoms_spec (ws := ww yJ7_fill_53178 cJ7_fill_53178 4 none) B.pre w (List.mem_cons_of_mem _ h)
  have hown : s.vm.findClass RJ7 = some m.cls := findClass_of_methodNamed B.named
  have hlocks := B.notSynchronized
  subst hsz
  have hD := hD0.self (sz := s.heap.size)
  generalize hAe : va_A [(p0, .inl (k 0, 6, .inl f0))] s.heap.size = A at hD ⊢
  have hA : ∀ q : Nat, s.heap.size ≤ q → A q := fun q h => by rw [← hAe]; exact Or.inr h
  have hS : va_S A s.heap s.heap [] := va_S.rf
  have hl := lv_entry ([.ref p0, .int p1]) (n := 4) (Nat.le_of_ble_eq_true rfl)
  rw [lg_entry_eq]
  generalize (lg_sl ([.ref p0, .int p1]) ++ List.replicate (4 - (lg_sl ([.ref p0, .int p1])).length) Slot.unset).toArray = ls at hl ⊢
  have hl : lv_has ls 4 [(0, .ref p0), (1, .int p1)] := hl
  refine lv_iconst (v := 0) hx hb dJ7_fill_53178_0 (by decide) ?_
  refine lv_istore_n (lv' := [(2, .int 0), (0, .ref p0), (1, .int p1)]) hx hb dJ7_fill_53178_1 rfl hl (by decide) rfl (fun ls hl => ?_)
  refine lv_aload_n hx hb dJ7_fill_53178_2 rfl (lv_at hl 1 rfl) ?_
  refine va_alen (v := 6) hx hb hK hP 0 0 rfl rfl (show Int32.ofNat 6 = 6 from by decide) dJ7_fill_53178_3 ?_
  refine lv_istore_n (lv' := [(3, .int 6), (2, .int 0), (0, .ref p0), (1, .int p1)]) hx hb dJ7_fill_53178_4 rfl hl (by decide) rfl (fun ls hl => ?_)
  refine loop_r (Wg := fun H locs ls => W p l e _ s m _ below meth c H locs _ _ _ (F0 m 5 ls [])) (fun n9 H locs ls => ∃ (L5l2 : Int32) (L5a0 : Nat → Int32), n9 = (6 - L5l2.toInt).toNat ∧ (0 ≤ L5l2.toInt ∧ L5l2.toInt ≤ 6) ∧ (FV L5l2.toInt p1 L5a0) ∧ va_P D vwCl [(p0, .inl (k 0, 6, .inl L5a0))] H ∧ va_D A [(p0, .inl (k 0, 6, .inl L5a0))] ∧ va_S A s.heap H locs ∧ lv_has ls 4 [(0, .ref p0), (1, .int p1), (2, .int L5l2), (3, .int 6)]) (fun n9 H locs ls hI ih_1 => ?_) _ _ _ _ ⟨0, f0, rfl, (show 0 ≤ 0 ∧ 0 ≤ 6 from by omega), (FV.zero _ _), hP.sub (ws' := [(p0, .inl (k 0, 6, .inl f0))]) [0] rfl, hD.sub (ws' := [(p0, .inl (k 0, 6, .inl f0))]) [0] (by decide +kernel) rfl, hS, lv_sub hl [2, 3, 1, 0] rfl⟩
  clear hP hD hS hl
  obtain ⟨L5l2, L5a0, en_2, zL5l2, hi5x0, hP, hD, hS, hl⟩ := hI
  refine lv_iload_n hx hb dJ7_fill_53178_5 rfl (lv_at hl 2 rfl) ?_
  refine lv_iload_n hx hb dJ7_fill_53178_6 rfl (lv_at hl 3 rfl) ?_
  refine lv_icmp_ge (tgt := 20) hx hb dJ7_fill_53178_7 (by decide) (fun h_3 => ?_) (fun h_3 => ?_)
  · skip
    have zh_3 : 6 ≤ L5l2.toInt := z_le h_3
    obtain ⟨hP9, hD9⟩ := sub2 hP hD (ws' := [(p0, .inl (k 0, 6, .inl L5a0))]) [0] (by decide +kernel) rfl
    exact W.vret hx hb hr (fun tZ ht hW => ⟨⟨L5a0, rfl, (FV.pr hi5x0 (by omega) (by omega) (by omega)), by rw [ht]; exact hP9, va_K.moved hW.alike hK, hD9⟩, hS.F ht⟩) hS.2.2 dJ7_fill_53178_20
  · skip
    have zh_3 : L5l2.toInt < 6 := z_nle h_3
    refine lv_aload_n hx hb dJ7_fill_53178_10 rfl (lv_at hl 0 rfl) ?_
    refine lv_iload_n hx hb dJ7_fill_53178_11 rfl (lv_at hl 2 rfl) ?_
    refine lv_iload_n hx hb dJ7_fill_53178_12 rfl (lv_at hl 1 rfl) ?_
    refine va_iast hx hb hK hP hD hS 0 0 rfl rfl (z_in (by omega) (by omega)) dJ7_fill_53178_13 (fun H locs hP hD hS => ?_)
    obtain ⟨g_4, eg_4⟩ : ∃ z : Nat → Int32, upd L5a0 L5l2.toNatClampNeg p1 = z := ⟨_, rfl⟩
    have hP : va_P D vwCl [(p0, .inl (k 0, 6, .inl (upd L5a0 L5l2.toNatClampNeg p1)))] H := hP
    have hD : va_D A [(p0, .inl (k 0, 6, .inl (upd L5a0 L5l2.toNatClampNeg p1)))] := hD
    rw [eg_4] at hP hD
    obtain ⟨x_5, ex_5⟩ : ∃ y : Int32, y = L5l2 + 1 := ⟨_, rfl⟩
    have zx_5 : x_5.toInt = L5l2.toInt + 1 := by rw [ex_5]; exact z_add rfl rfl (by omega) (by omega)
    refine lv_iinc (v := x_5) (lv' := [(2, .int x_5), (0, .ref p0), (1, .int p1), (3, .int 6)]) hx hb dJ7_fill_53178_14 hl (k := 2) rfl (by rw [ex_5]; rfl) (by decide) rfl (fun ls hl => ?_)
    refine lv_goto (tgt := 5) hx hb dJ7_fill_53178_17 (by decide) ?_
    exact ih_1 _ _ _ _ (by omega) ⟨x_5, g_4, rfl, (show 0 ≤ x_5.toInt ∧ x_5.toInt ≤ 6 from by omega), (show FV x_5.toInt p1 g_4 from by rw [← eg_4]; exact FV.step hi5x0 (b := L5l2) (by omega) (by omega) (by omega)), hP.sub (ws' := [(p0, .inl (k 0, 6, .inl g_4))]) [0] rfl, hD.sub (ws' := [(p0, .inl (k 0, 6, .inl g_4))]) [0] (by decide +kernel) rfl, hS, lv_sub hl [1, 2, 0, 3] rfl⟩
set_option maxHeartbeats 4000000 in
set_option maxRecDepth 100000 in
theorem c_J7_fill_53178_3 (l : Launch) (D : va_G) (k : Nat → ClassId) (p0 : Nat) (f0 : Nat → Int32) (sz : Nat) : Met l yJ7_fill_53178 (ww yJ7_fill_53178 cJ7_fill_53178 4 none) ({ frames := 0, cells := 0, slots := 0, locals := 0 }) (Pre0 D k [(p0, .inl (k 0, 1001, .inl f0))] sz [.ref p0, .int 0]) (va_Qv (fun (f0z : (Nat → Int32)) => (PR 1001 1 0 0 0 f0z)) (fun (f0z : (Nat → Int32)) tZ => Bw D k (va_A [(p0, .inl (k 0, 1001, .inl f0))] sz) [(p0, .inl (k 0, 1001, .inl f0z))] tZ) (va_A [(p0, .inl (k 0, 1001, .inl f0))] sz)) 0 0 (va_A [(p0, .inl (k 0, 1001, .inl f0))] sz) := by
  refine Met.ofW (cc := cJ7_fill_53178) (maxL := 4) (ret := none) (by decide +kernel) rfl ?_
  intro p e s m args below meth c s₁ B hml hv
  obtain ⟨rfl, hsz, hP, hK, hD0, hN⟩ := hv
  have hx := B.exec
  have hb := B.bytes
  have hr := B.returns
  have hts : ∀ w ∈ TT, w.before _ s = true := fun w h => atoms_spec (ws := ww yJ7_fill_53178 cJ7_fill_53178 4 none) B.pre w (List.mem_cons_of_mem _ h)
  have hown : s.vm.findClass RJ7 = some m.cls := findClass_of_methodNamed B.named
  have hlocks := B.notSynchronized
  subst hsz
  have hD := hD0.self (sz := s.heap.size)
  generalize hAe : va_A [(p0, .inl (k 0, 1001, .inl f0))] s.heap.size = A at hD ⊢
  have hA : ∀ q : Nat, s.heap.size ≤ q → A q := fun q h => by rw [← hAe]; exact Or.inr h
  have hS : va_S A s.heap s.heap [] := va_S.rf
  have hl := lv_entry ([.ref p0, .int 0]) (n := 4) (Nat.le_of_ble_eq_true rfl)
  rw [lg_entry_eq]
  generalize (lg_sl ([.ref p0, .int 0]) ++ List.replicate (4 - (lg_sl ([.ref p0, .int 0])).length) Slot.unset).toArray = ls at hl ⊢
  have hl : lv_has ls 4 [(0, .ref p0), (1, .int 0)] := hl
  refine lv_iconst (v := 0) hx hb dJ7_fill_53178_0 (by decide) ?_
  refine lv_istore_n (lv' := [(2, .int 0), (0, .ref p0), (1, .int 0)]) hx hb dJ7_fill_53178_1 rfl hl (by decide) rfl (fun ls hl => ?_)
  refine lv_aload_n hx hb dJ7_fill_53178_2 rfl (lv_at hl 1 rfl) ?_
  refine va_alen (v := 1001) hx hb hK hP 0 0 rfl rfl (show Int32.ofNat 1001 = 1001 from by decide) dJ7_fill_53178_3 ?_
  refine lv_istore_n (lv' := [(3, .int 1001), (2, .int 0), (0, .ref p0), (1, .int 0)]) hx hb dJ7_fill_53178_4 rfl hl (by decide) rfl (fun ls hl => ?_)
  refine loop_r (Wg := fun H locs ls => W p l e _ s m _ below meth c H locs _ _ _ (F0 m 5 ls [])) (fun n9 H locs ls => ∃ (L5l2 : Int32) (L5a0 : Nat → Int32), n9 = (1001 - L5l2.toInt).toNat ∧ (0 ≤ L5l2.toInt ∧ L5l2.toInt ≤ 1001) ∧ (FV L5l2.toInt 0 L5a0) ∧ va_P D vwCl [(p0, .inl (k 0, 1001, .inl L5a0))] H ∧ va_D A [(p0, .inl (k 0, 1001, .inl L5a0))] ∧ va_S A s.heap H locs ∧ lv_has ls 4 [(0, .ref p0), (1, .int 0), (2, .int L5l2), (3, .int 1001)]) (fun n9 H locs ls hI ih_1 => ?_) _ _ _ _ ⟨0, f0, rfl, (show 0 ≤ 0 ∧ 0 ≤ 1001 from by omega), (FV.zero _ _), hP.sub (ws' := [(p0, .inl (k 0, 1001, .inl f0))]) [0] rfl, hD.sub (ws' := [(p0, .inl (k 0, 1001, .inl f0))]) [0] (by decide +kernel) rfl, hS, lv_sub hl [2, 3, 1, 0] rfl⟩
  clear hP hD hS hl
  obtain ⟨L5l2, L5a0, en_2, zL5l2, hi5x0, hP, hD, hS, hl⟩ := hI
  refine lv_iload_n hx hb dJ7_fill_53178_5 rfl (lv_at hl 2 rfl) ?_
  refine lv_iload_n hx hb dJ7_fill_53178_6 rfl (lv_at hl 3 rfl) ?_
  refine lv_icmp_ge (tgt := 20) hx hb dJ7_fill_53178_7 (by decide) (fun h_3 => ?_) (fun h_3 => ?_)
  · skip
    have zh_3 : 1001 ≤ L5l2.toInt := z_le h_3
    obtain ⟨hP9, hD9⟩ := sub2 hP hD (ws' := [(p0, .inl (k 0, 1001, .inl L5a0))]) [0] (by decide +kernel) rfl
    exact W.vret hx hb hr (fun tZ ht hW => ⟨⟨L5a0, rfl, (FV.pr hi5x0 (by omega) (by decide) (by decide)), by rw [ht]; exact hP9, va_K.moved hW.alike hK, hD9⟩, hS.F ht⟩) hS.2.2 dJ7_fill_53178_20
  · skip
    have zh_3 : L5l2.toInt < 1001 := z_nle h_3
    refine lv_aload_n hx hb dJ7_fill_53178_10 rfl (lv_at hl 0 rfl) ?_
    refine lv_iload_n hx hb dJ7_fill_53178_11 rfl (lv_at hl 2 rfl) ?_
    refine lv_iload_n hx hb dJ7_fill_53178_12 rfl (lv_at hl 1 rfl) ?_
    refine va_iast hx hb hK hP hD hS 0 0 rfl rfl (z_in (by omega) (by omega)) dJ7_fill_53178_13 (fun H locs hP hD hS => ?_)
    obtain ⟨g_4, eg_4⟩ : ∃ z : Nat → Int32, upd L5a0 L5l2.toNatClampNeg 0 = z := ⟨_, rfl⟩
    have hP : va_P D vwCl [(p0, .inl (k 0, 1001, .inl (upd L5a0 L5l2.toNatClampNeg 0)))] H := hP
    have hD : va_D A [(p0, .inl (k 0, 1001, .inl (upd L5a0 L5l2.toNatClampNeg 0)))] := hD
    rw [eg_4] at hP hD
    obtain ⟨x_5, ex_5⟩ : ∃ y : Int32, y = L5l2 + 1 := ⟨_, rfl⟩
    have zx_5 : x_5.toInt = L5l2.toInt + 1 := by rw [ex_5]; exact z_add rfl rfl (by omega) (by omega)
    refine lv_iinc (v := x_5) (lv' := [(2, .int x_5), (0, .ref p0), (1, .int 0), (3, .int 1001)]) hx hb dJ7_fill_53178_14 hl (k := 2) rfl (by rw [ex_5]; rfl) (by decide) rfl (fun ls hl => ?_)
    refine lv_goto (tgt := 5) hx hb dJ7_fill_53178_17 (by decide) ?_
    exact ih_1 _ _ _ _ (by omega) ⟨x_5, g_4, rfl, (show 0 ≤ x_5.toInt ∧ x_5.toInt ≤ 1001 from by omega), (show FV x_5.toInt 0 g_4 from by rw [← eg_4]; exact FV.step hi5x0 (b := L5l2) (by omega) (by omega) (by omega)), hP.sub (ws' := [(p0, .inl (k 0, 1001, .inl g_4))]) [0] rfl, hD.sub (ws' := [(p0, .inl (k 0, 1001, .inl g_4))]) [0] (by decide +kernel) rfl, hS, lv_sub hl [1, 2, 0, 3] rfl⟩
set_option maxHeartbeats 4000000 in
set_option maxRecDepth 100000 in
theorem c_X1_enter (l : Launch) (D : va_G) (k : Nat → ClassId) (ob : Nat) (p0 : Int32) (p1 : Int32) (ob_0 : Nat) (obv1 : Int32) (obv2 : Int32) (obg0 : Nat → Int32) (sz : Nat) (h_p1 : 0 ≤ p1.toInt ∧ p1.toInt ≤ 1000000) (hp_obg0_0 : PR 8 1 0 0 1000000 obg0) : Met l yX1_enter (ww yX1_enter cX1_enter 3 none) ({ frames := 0, cells := 0, slots := 0, locals := 0 }) (Pre0 D k [(ob, .inr (1, [.ref ob_0, .int obv1, .int obv2])), (ob_0, .inl (k 0, 8, .inl obg0))] sz [.ref ob, .int p0, .int p1]) (va_Qv (fun (obg0z : (Nat → Int32)) => (PR 8 1 0 0 1000000 obg0z)) (fun (obg0z : (Nat → Int32)) tZ => Bw D k (va_A [(ob, .inr (1, [.ref ob_0, .int obv1, .int obv2])), (ob_0, .inl (k 0, 8, .inl obg0))] sz) [(ob, .inr (1, [.ref ob_0, .int obv1, .int obv2])), (ob_0, .inl (k 0, 8, .inl obg0z))] tZ) (va_A [(ob, .inr (1, [.ref ob_0, .int obv1, .int obv2])), (ob_0, .inl (k 0, 8, .inl obg0))] sz)) 0 0 (va_A [(ob, .inr (1, [.ref ob_0, .int obv1, .int obv2])), (ob_0, .inl (k 0, 8, .inl obg0))] sz) := by
  refine Met.ofW (cc := cX1_enter) (maxL := 3) (ret := none) (by decide +kernel) rfl ?_
  intro p e s m args below meth c s₁ B hml hv
  obtain ⟨rfl, hsz, hP, hK, hD0, hN⟩ := hv
  have hx := B.exec
  have hb := B.bytes
  have hr := B.returns
  have hts : ∀ w ∈ TT, w.before _ s = true := fun w h => atoms_spec (ws := ww yX1_enter cX1_enter 3 none) B.pre w (List.mem_cons_of_mem _ h)
  have hown : s.vm.findClass RX1 = some m.cls := findClass_of_methodNamed B.named
  have hlocks := B.notSynchronized
  subst hsz
  have hD := hD0.self (sz := s.heap.size)
  generalize hAe : va_A [(ob, .inr (1, [.ref ob_0, .int obv1, .int obv2])), (ob_0, .inl (k 0, 8, .inl obg0))] s.heap.size = A at hD ⊢
  have hA : ∀ q : Nat, s.heap.size ≤ q → A q := fun q h => by rw [← hAe]; exact Or.inr h
  have hS : va_S A s.heap s.heap [] := va_S.rf
  have hl := lv_entry ([.ref ob, .int p0, .int p1]) (n := 3) (Nat.le_of_ble_eq_true rfl)
  rw [lg_entry_eq]
  generalize (lg_sl ([.ref ob, .int p0, .int p1]) ++ List.replicate (3 - (lg_sl ([.ref ob, .int p0, .int p1])).length) Slot.unset).toArray = ls at hl ⊢
  have hl : lv_has ls 3 [(0, .ref ob), (1, .int p0), (2, .int p1)] := hl
  refine lv_iload_n hx hb dX1_enter_0 rfl (lv_at hl 1 rfl) ?_
  refine lv_if_lt (tgt := 27) hx hb dX1_enter_1 (by decide) (fun h_1 => ?_) (fun h_1 => ?_)
  · skip
    have zh_1 : p0.toInt < 0 := z_lt h_1
    obtain ⟨hP9, hD9⟩ := sub2 hP hD (ws' := [(ob, .inr (1, [.ref ob_0, .int obv1, .int obv2])), (ob_0, .inl (k 0, 8, .inl obg0))]) [0, 1] (by decide +kernel) rfl
    exact W.vret hx hb hr (fun tZ ht hW => ⟨⟨obg0, rfl, hp_obg0_0, by rw [ht]; exact hP9, va_K.moved hW.alike hK, hD9⟩, hS.F ht⟩) hS.2.2 dX1_enter_27
  · skip
    have zh_1 : 0 ≤ p0.toInt := z_nlt h_1
    refine lv_iload_n hx hb dX1_enter_4 rfl (lv_at hl 1 rfl) ?_
    refine lv_bipush (v := 8) hx hb dX1_enter_5 (by decide) ?_
    refine lv_icmp_ge (tgt := 27) hx hb dX1_enter_7 (by decide) (fun h_2 => ?_) (fun h_2 => ?_)
    · skip
      have zh_2 : 8 ≤ p0.toInt := z_le h_2
      obtain ⟨hP9, hD9⟩ := sub2 hP hD (ws' := [(ob, .inr (1, [.ref ob_0, .int obv1, .int obv2])), (ob_0, .inl (k 0, 8, .inl obg0))]) [0, 1] (by decide +kernel) rfl
      exact W.vret hx hb hr (fun tZ ht hW => ⟨⟨obg0, rfl, hp_obg0_0, by rw [ht]; exact hP9, va_K.moved hW.alike hK, hD9⟩, hS.F ht⟩) hS.2.2 dX1_enter_27
    · skip
      have zh_2 : p0.toInt < 8 := z_nle h_2
      refine lv_iload_n hx hb dX1_enter_10 rfl (lv_at hl 2 rfl) ?_
      refine lv_aload_n hx hb dX1_enter_11 rfl (lv_at hl 0 rfl) ?_
      refine va_get (D := D) (ci := 1) (v := .ref ob_0) (C := RX1) (T := TX1) (N := 3) hx hb hts iT_X1 hown hK hP 0 rfl rfl 0 (by decide) (hts _ tw_2_17) (fun _ h9 => h9) rfl dX1_enter_12 ?_
      refine lv_iload_n hx hb dX1_enter_15 rfl (lv_at hl 1 rfl) ?_
      refine va_iald hx hb hK hP 1 0 rfl rfl (z_in (by omega) (by omega)) dX1_enter_16 ?_
      refine lv_topi (fun x_3 ex_3 => ?_)
      have zx_3r0 : 0 ≤ x_3.toInt ∧ x_3.toInt ≤ 1000000 := by rw [ex_3]; exact PR.ld hp_obg0_0 (by omega) (by omega) (by omega)
      refine lv_icmp_ge (tgt := 27) hx hb dX1_enter_17 (by decide) (fun h_4 => ?_) (fun h_4 => ?_)
      · skip
        have zh_4 : x_3.toInt ≤ p1.toInt := z_le h_4
        obtain ⟨hP9, hD9⟩ := sub2 hP hD (ws' := [(ob, .inr (1, [.ref ob_0, .int obv1, .int obv2])), (ob_0, .inl (k 0, 8, .inl obg0))]) [0, 1] (by decide +kernel) rfl
        exact W.vret hx hb hr (fun tZ ht hW => ⟨⟨obg0, rfl, hp_obg0_0, by rw [ht]; exact hP9, va_K.moved hW.alike hK, hD9⟩, hS.F ht⟩) hS.2.2 dX1_enter_27
      · skip
        have zh_4 : p1.toInt < x_3.toInt := z_nle h_4
        refine lv_aload_n hx hb dX1_enter_20 rfl (lv_at hl 0 rfl) ?_
        refine va_get (D := D) (ci := 1) (v := .ref ob_0) (C := RX1) (T := TX1) (N := 3) hx hb hts iT_X1 hown hK hP 0 rfl rfl 0 (by decide) (hts _ tw_2_17) (fun _ h9 => h9) rfl dX1_enter_21 ?_
        refine lv_iload_n hx hb dX1_enter_24 rfl (lv_at hl 1 rfl) ?_
        refine lv_iload_n hx hb dX1_enter_25 rfl (lv_at hl 2 rfl) ?_
        refine va_iast hx hb hK hP hD hS 1 0 rfl rfl (z_in (by omega) (by omega)) dX1_enter_26 (fun H locs hP hD hS => ?_)
        obtain ⟨g_5, eg_5⟩ : ∃ z : Nat → Int32, upd obg0 p0.toNatClampNeg p1 = z := ⟨_, rfl⟩
        have hP : va_P D vwCl [(ob, .inr (1, [.ref ob_0, .int obv1, .int obv2])), (ob_0, .inl (k 0, 8, .inl (upd obg0 p0.toNatClampNeg p1)))] H := hP
        have hD : va_D A [(ob, .inr (1, [.ref ob_0, .int obv1, .int obv2])), (ob_0, .inl (k 0, 8, .inl (upd obg0 p0.toNatClampNeg p1)))] := hD
        rw [eg_5] at hP hD
        have hp_6 : PR 8 1 0 0 1000000 g_5 := by rw [← eg_5]; exact PR.put hp_obg0_0 ⟨by omega, by omega⟩
        obtain ⟨hP9, hD9⟩ := sub2 hP hD (ws' := [(ob, .inr (1, [.ref ob_0, .int obv1, .int obv2])), (ob_0, .inl (k 0, 8, .inl g_5))]) [0, 1] (by decide +kernel) rfl
        exact W.vret hx hb hr (fun tZ ht hW => ⟨⟨g_5, rfl, hp_6, by rw [ht]; exact hP9, va_K.moved hW.alike hK, hD9⟩, hS.F ht⟩) hS.2.2 dX1_enter_27
set_option maxHeartbeats 4000000 in
set_option maxRecDepth 100000 in
theorem c_X1_minutesOf (l : Launch) (D : va_G) (k : Nat → ClassId) (ob : Nat) (tn : Nat) (p1 : Int32) (ob_0 : Nat) (obv1 : Int32) (obv2 : Int32) (tnv0 : Int32) (tnv1 : Int32) (tnv2 : Int32) (tn_3 : Nat) (tn_4 : Nat) (tn_5 : Nat) (tn_6 : Nat) (tnv7 : Int32) (tnv8 : Int32) (tn_9 : Nat) (tn_10 : Nat) (tnv11 : Int32) (tn_12 : Nat) (tn_13 : Nat) (tn_14 : Nat) (tn_15 : Nat) (tnv16 : Int32) (tn_17 : Nat) (tn_18 : Nat) (tnt : Nat) (tng5 : Nat → Int32) (sz : Nat) (h_p1 : 0 ≤ p1.toInt ∧ p1.toInt ≤ 9) (h_tnv0 : 0 ≤ tnv0.toInt ∧ tnv0.toInt ≤ 8) (h_tnv2 : 0 ≤ tnv2.toInt ∧ tnv2.toInt ≤ 10) (h_tnv8 : 0 ≤ tnv8.toInt ∧ tnv8.toInt ≤ 4) (h_tnv11 : 0 ≤ tnv11.toInt ∧ tnv11.toInt ≤ 6) (h_tnv16 : 0 ≤ tnv16.toInt ∧ tnv16.toInt ≤ 2) (hp_tng5_0 : PR 10 1 0 0 60 tng5) : Met l yX1_minutesOf (ww yX1_minutesOf cX1_minutesOf 3 (some .int)) ({ frames := 0, cells := 0, slots := 0, locals := 0 }) (Pre0 D k [(ob, .inr (1, [.ref ob_0, .int obv1, .int obv2])), (tn, .inr (10, [.int tnv0, .int tnv1, .int tnv2, .ref tn_3, .ref tn_4, .ref tn_5, .ref tn_6, .int tnv7, .int tnv8, .ref tn_9, .ref tn_10, .int tnv11, .ref tn_12, .ref tn_13, .ref tn_14, .ref tn_15, .int tnv16, .ref tn_17, .ref tn_18, .ref tnt])), (tn_5, .inl (k 0, 10, .inl tng5))] sz [.ref ob, .ref tn, .int p1]) (va_Qi (fun (r : Int32) (_ : Unit) => (0 ≤ r.toInt ∧ r.toInt ≤ 70)) (fun (_ : Unit) tZ => Bw D k (va_A [(ob, .inr (1, [.ref ob_0, .int obv1, .int obv2])), (tn, .inr (10, [.int tnv0, .int tnv1, .int tnv2, .ref tn_3, .ref tn_4, .ref tn_5, .ref tn_6, .int tnv7, .int tnv8, .ref tn_9, .ref tn_10, .int tnv11, .ref tn_12, .ref tn_13, .ref tn_14, .ref tn_15, .int tnv16, .ref tn_17, .ref tn_18, .ref tnt])), (tn_5, .inl (k 0, 10, .inl tng5))] sz) [(ob, .inr (1, [.ref ob_0, .int obv1, .int obv2])), (tn, .inr (10, [.int tnv0, .int tnv1, .int tnv2, .ref tn_3, .ref tn_4, .ref tn_5, .ref tn_6, .int tnv7, .int tnv8, .ref tn_9, .ref tn_10, .int tnv11, .ref tn_12, .ref tn_13, .ref tn_14, .ref tn_15, .int tnv16, .ref tn_17, .ref tn_18, .ref tnt])), (tn_5, .inl (k 0, 10, .inl tng5))] tZ) (va_A [(ob, .inr (1, [.ref ob_0, .int obv1, .int obv2])), (tn, .inr (10, [.int tnv0, .int tnv1, .int tnv2, .ref tn_3, .ref tn_4, .ref tn_5, .ref tn_6, .int tnv7, .int tnv8, .ref tn_9, .ref tn_10, .int tnv11, .ref tn_12, .ref tn_13, .ref tn_14, .ref tn_15, .int tnv16, .ref tn_17, .ref tn_18, .ref tnt])), (tn_5, .inl (k 0, 10, .inl tng5))] sz)) 0 0 (va_A [(ob, .inr (1, [.ref ob_0, .int obv1, .int obv2])), (tn, .inr (10, [.int tnv0, .int tnv1, .int tnv2, .ref tn_3, .ref tn_4, .ref tn_5, .ref tn_6, .int tnv7, .int tnv8, .ref tn_9, .ref tn_10, .int tnv11, .ref tn_12, .ref tn_13, .ref tn_14, .ref tn_15, .int tnv16, .ref tn_17, .ref tn_18, .ref tnt])), (tn_5, .inl (k 0, 10, .inl tng5))] sz) := by
  refine Met.ofW (cc := cX1_minutesOf) (maxL := 3) (ret := (some .int)) (by decide +kernel) rfl ?_
  intro p e s m args below meth c s₁ B hml hv
  obtain ⟨rfl, hsz, hP, hK, hD0, hN⟩ := hv
  have hx := B.exec
  have hb := B.bytes
  have hr := B.returns
  have hts : ∀ w ∈ TT, w.before _ s = true := fun w h => atoms_spec (ws := ww yX1_minutesOf cX1_minutesOf 3 (some .int)) B.pre w (List.mem_cons_of_mem _ h)
  have hown : s.vm.findClass RX1 = some m.cls := findClass_of_methodNamed B.named
  have hlocks := B.notSynchronized
  subst hsz
  have hD := hD0.self (sz := s.heap.size)
  generalize hAe : va_A [(ob, .inr (1, [.ref ob_0, .int obv1, .int obv2])), (tn, .inr (10, [.int tnv0, .int tnv1, .int tnv2, .ref tn_3, .ref tn_4, .ref tn_5, .ref tn_6, .int tnv7, .int tnv8, .ref tn_9, .ref tn_10, .int tnv11, .ref tn_12, .ref tn_13, .ref tn_14, .ref tn_15, .int tnv16, .ref tn_17, .ref tn_18, .ref tnt])), (tn_5, .inl (k 0, 10, .inl tng5))] s.heap.size = A at hD ⊢
  have hA : ∀ q : Nat, s.heap.size ≤ q → A q := fun q h => by rw [← hAe]; exact Or.inr h
  have hS : va_S A s.heap s.heap [] := va_S.rf
  have hl := lv_entry ([.ref ob, .ref tn, .int p1]) (n := 3) (Nat.le_of_ble_eq_true rfl)
  rw [lg_entry_eq]
  generalize (lg_sl ([.ref ob, .ref tn, .int p1]) ++ List.replicate (3 - (lg_sl ([.ref ob, .ref tn, .int p1])).length) Slot.unset).toArray = ls at hl ⊢
  have hl : lv_has ls 3 [(0, .ref ob), (1, .ref tn), (2, .int p1)] := hl
  refine lv_aload_n hx hb dX1_minutesOf_0 rfl (lv_at hl 1 rfl) ?_
  refine va_get (D := D) (ci := 10) (v := .ref tn_5) (C := RX10) (T := TX10) (N := 20) hx hb hts iT_X10 hown hK hP 1 rfl rfl 5 (by decide) (hts _ tw_1_96) (fun _ h9 => h9) rfl dX1_minutesOf_1 ?_
  refine lv_iload_n hx hb dX1_minutesOf_4 rfl (lv_at hl 2 rfl) ?_
  refine va_iald hx hb hK hP 2 0 rfl rfl (z_in (by omega) (by omega)) dX1_minutesOf_5 ?_
  refine lv_topi (fun x_1 ex_1 => ?_)
  have zx_1r0 : 0 ≤ x_1.toInt ∧ x_1.toInt ≤ 60 := by rw [ex_1]; exact PR.ld hp_tng5_0 (by omega) (by omega) (by omega)
  refine lv_aload_n hx hb dX1_minutesOf_6 rfl (lv_at hl 0 rfl) ?_
  refine va_get (D := D) (ci := 1) (v := .int obv2) (C := RX1) (T := TX1) (N := 3) hx hb hts iT_X1 hown hK hP 0 rfl rfl 2 (by decide) (hts _ tw_2_25) (fun _ h9 => h9) rfl dX1_minutesOf_7 ?_
  refine lv_iload_n hx hb dX1_minutesOf_10 rfl (lv_at hl 2 rfl) ?_
  refine lv_ishr hx hb dX1_minutesOf_11 ?_
  refine lv_topi (fun x_2 ex_2 => ?_)
  have zrobv2 := z_rng obv2
  refine lv_iconst (v := 1) hx hb dX1_minutesOf_12 (by decide) ?_
  refine lv_iand hx hb dX1_minutesOf_13 ?_
  refine lv_topi (fun x_3 ex_3 => ?_)
  have zrx_2 := z_rng x_2
  have zx_3 : 0 ≤ x_3.toInt ∧ x_3.toInt < 2 := by rw [ex_3]; exact z_and _ 1 2 rfl rfl (by decide)
  refine lv_bipush (v := 10) hx hb dX1_minutesOf_14 (by decide) ?_
  refine lv_imul hx hb dX1_minutesOf_16 ?_
  refine lv_topi (fun x_4 ex_4 => ?_)
  have zx_4 : x_4.toInt = x_3.toInt * 10 := by rw [ex_4]; exact z_mul rfl rfl (by omega) (by omega)
  refine lv_iadd hx hb dX1_minutesOf_17 ?_
  refine lv_topi (fun x_5 ex_5 => ?_)
  have zx_5 : x_5.toInt = x_1.toInt + x_4.toInt := by rw [ex_5]; exact z_add rfl rfl (by omega) (by omega)
  obtain ⟨hP9, hD9⟩ := sub2 hP hD (ws' := [(ob, .inr (1, [.ref ob_0, .int obv1, .int obv2])), (tn, .inr (10, [.int tnv0, .int tnv1, .int tnv2, .ref tn_3, .ref tn_4, .ref tn_5, .ref tn_6, .int tnv7, .int tnv8, .ref tn_9, .ref tn_10, .int tnv11, .ref tn_12, .ref tn_13, .ref tn_14, .ref tn_15, .int tnv16, .ref tn_17, .ref tn_18, .ref tnt])), (tn_5, .inl (k 0, 10, .inl tng5))]) [0, 1, 2] (by decide +kernel) rfl
  exact W.iret (v := x_5) hx hb hr (fun tZ ht hW => ⟨⟨x_5, (), rfl, (show 0 ≤ x_5.toInt ∧ x_5.toInt ≤ 70 from by omega), by rw [ht]; exact hP9, va_K.moved hW.alike hK, hD9⟩, hS.F ht⟩) hS.2.2 dX1_minutesOf_18
set_option maxHeartbeats 4000000 in
set_option maxRecDepth 100000 in
theorem c_X1_flow (l : Launch) (D : va_G) (k : Nat → ClassId) (ob : Nat) (tn : Nat) (p1 : Int32) (p2 : Int32) (ob_0 : Nat) (obv1 : Int32) (obv2 : Int32) (obg0 : Nat → Int32) (tnv0 : Int32) (tnv1 : Int32) (tnv2 : Int32) (tn_3 : Nat) (tn_4 : Nat) (tn_5 : Nat) (tn_6 : Nat) (tnv7 : Int32) (tnv8 : Int32) (tn_9 : Nat) (tn_10 : Nat) (tnv11 : Int32) (tn_12 : Nat) (tn_13 : Nat) (tn_14 : Nat) (tn_15 : Nat) (tnv16 : Int32) (tn_17 : Nat) (tn_18 : Nat) (tnt : Nat) (tng3 : Nat → Int32) (tng4 : Nat → Int32) (tng5 : Nat → Int32) (sz : Nat) (hp_obg0_0 : PR 8 1 0 0 1000000 obg0) (h_tnv0 : 0 ≤ tnv0.toInt ∧ tnv0.toInt ≤ 8) (h_tnv2 : 0 ≤ tnv2.toInt ∧ tnv2.toInt ≤ 10) (h_tnv8 : 0 ≤ tnv8.toInt ∧ tnv8.toInt ≤ 4) (h_tnv11 : 0 ≤ tnv11.toInt ∧ tnv11.toInt ≤ 6) (h_tnv16 : 0 ≤ tnv16.toInt ∧ tnv16.toInt ≤ 2) (hp_tng3_0 : PR 10 1 0 0 7 tng3) (hp_tng4_0 : PR 10 1 0 0 7 tng4) (hp_tng5_0 : PR 10 1 0 0 60 tng5) : Met l yX1_flow (ww yX1_flow cX1_flow 10 none) ({ frames := 1, cells := 0, slots := 0, locals := 22 }) (Pre0 D k [(ob, .inr (1, [.ref ob_0, .int obv1, .int obv2])), (ob_0, .inl (k 0, 8, .inl obg0)), (tn, .inr (10, [.int tnv0, .int tnv1, .int tnv2, .ref tn_3, .ref tn_4, .ref tn_5, .ref tn_6, .int tnv7, .int tnv8, .ref tn_9, .ref tn_10, .int tnv11, .ref tn_12, .ref tn_13, .ref tn_14, .ref tn_15, .int tnv16, .ref tn_17, .ref tn_18, .ref tnt])), (tn_3, .inl (k 0, 10, .inl tng3)), (tn_4, .inl (k 0, 10, .inl tng4)), (tn_5, .inl (k 0, 10, .inl tng5))] sz [.ref ob, .ref tn, .int p1, .int p2]) (va_Qv (fun (u : Int32 × Int32 × (Nat → Int32)) => match u with | (obv1z, obv2z, obg0z) => (PR 8 1 0 0 1000000 obg0z)) (fun (u : Int32 × Int32 × (Nat → Int32)) tZ => match u with | (obv1z, obv2z, obg0z) => Bw D k (va_A [(ob, .inr (1, [.ref ob_0, .int obv1, .int obv2])), (ob_0, .inl (k 0, 8, .inl obg0)), (tn, .inr (10, [.int tnv0, .int tnv1, .int tnv2, .ref tn_3, .ref tn_4, .ref tn_5, .ref tn_6, .int tnv7, .int tnv8, .ref tn_9, .ref tn_10, .int tnv11, .ref tn_12, .ref tn_13, .ref tn_14, .ref tn_15, .int tnv16, .ref tn_17, .ref tn_18, .ref tnt])), (tn_3, .inl (k 0, 10, .inl tng3)), (tn_4, .inl (k 0, 10, .inl tng4)), (tn_5, .inl (k 0, 10, .inl tng5))] sz) [(ob, .inr (1, [.ref ob_0, .int obv1z, .int obv2z])), (ob_0, .inl (k 0, 8, .inl obg0z)), (tn, .inr (10, [.int tnv0, .int tnv1, .int tnv2, .ref tn_3, .ref tn_4, .ref tn_5, .ref tn_6, .int tnv7, .int tnv8, .ref tn_9, .ref tn_10, .int tnv11, .ref tn_12, .ref tn_13, .ref tn_14, .ref tn_15, .int tnv16, .ref tn_17, .ref tn_18, .ref tnt])), (tn_3, .inl (k 0, 10, .inl tng3)), (tn_4, .inl (k 0, 10, .inl tng4)), (tn_5, .inl (k 0, 10, .inl tng5))] tZ) (va_A [(ob, .inr (1, [.ref ob_0, .int obv1, .int obv2])), (ob_0, .inl (k 0, 8, .inl obg0)), (tn, .inr (10, [.int tnv0, .int tnv1, .int tnv2, .ref tn_3, .ref tn_4, .ref tn_5, .ref tn_6, .int tnv7, .int tnv8, .ref tn_9, .ref tn_10, .int tnv11, .ref tn_12, .ref tn_13, .ref tn_14, .ref tn_15, .int tnv16, .ref tn_17, .ref tn_18, .ref tnt])), (tn_3, .inl (k 0, 10, .inl tng3)), (tn_4, .inl (k 0, 10, .inl tng4)), (tn_5, .inl (k 0, 10, .inl tng5))] sz)) 0 0 (va_A [(ob, .inr (1, [.ref ob_0, .int obv1, .int obv2])), (ob_0, .inl (k 0, 8, .inl obg0)), (tn, .inr (10, [.int tnv0, .int tnv1, .int tnv2, .ref tn_3, .ref tn_4, .ref tn_5, .ref tn_6, .int tnv7, .int tnv8, .ref tn_9, .ref tn_10, .int tnv11, .ref tn_12, .ref tn_13, .ref tn_14, .ref tn_15, .int tnv16, .ref tn_17, .ref tn_18, .ref tnt])), (tn_3, .inl (k 0, 10, .inl tng3)), (tn_4, .inl (k 0, 10, .inl tng4)), (tn_5, .inl (k 0, 10, .inl tng5))] sz) := by
  refine Met.ofW (cc := cX1_flow) (maxL := 10) (ret := none) (by decide +kernel) rfl ?_
  intro p e s m args below meth c s₁ B hml hv
  obtain ⟨rfl, hsz, hP, hK, hD0, hN⟩ := hv
  have hx := B.exec
  have hb := B.bytes
  have hr := B.returns
  have hts : ∀ w ∈ TT, w.before _ s = true := fun w h => atoms_spec (ws := ww yX1_flow cX1_flow 10 none) B.pre w (List.mem_cons_of_mem _ h)
  have hown : s.vm.findClass RX1 = some m.cls := findClass_of_methodNamed B.named
  have hlocks := B.notSynchronized
  subst hsz
  have hD := hD0.self (sz := s.heap.size)
  generalize hAe : va_A [(ob, .inr (1, [.ref ob_0, .int obv1, .int obv2])), (ob_0, .inl (k 0, 8, .inl obg0)), (tn, .inr (10, [.int tnv0, .int tnv1, .int tnv2, .ref tn_3, .ref tn_4, .ref tn_5, .ref tn_6, .int tnv7, .int tnv8, .ref tn_9, .ref tn_10, .int tnv11, .ref tn_12, .ref tn_13, .ref tn_14, .ref tn_15, .int tnv16, .ref tn_17, .ref tn_18, .ref tnt])), (tn_3, .inl (k 0, 10, .inl tng3)), (tn_4, .inl (k 0, 10, .inl tng4)), (tn_5, .inl (k 0, 10, .inl tng5))] s.heap.size = A at hD ⊢
  have hA : ∀ q : Nat, s.heap.size ≤ q → A q := fun q h => by rw [← hAe]; exact Or.inr h
  have hS : va_S A s.heap s.heap [] := va_S.rf
  have hl := lv_entry ([.ref ob, .ref tn, .int p1, .int p2]) (n := 10) (Nat.le_of_ble_eq_true rfl)
  rw [lg_entry_eq]
  generalize (lg_sl ([.ref ob, .ref tn, .int p1, .int p2]) ++ List.replicate (10 - (lg_sl ([.ref ob, .ref tn, .int p1, .int p2])).length) Slot.unset).toArray = ls at hl ⊢
  have hl : lv_has ls 10 [(0, .ref ob), (1, .ref tn), (2, .int p1), (3, .int p2)] := hl
  refine lv_aload_n hx hb dX1_flow_0 rfl (lv_at hl 0 rfl) ?_
  refine lv_iload_n hx hb dX1_flow_1 rfl (lv_at hl 2 rfl) ?_
  refine va_put (D := D) (ci := 1) (v := .int p1) (ty := tyX1 1) (C := RX1) (T := TX1) (N := 3) hx hb hts iT_X1 tyX1 tyX1_ok nmX1 hown hK hP hD hS 0 rfl rfl 1 (by decide) (hts _ tw_2_24) (fun _ h9 => h9) rfl (tyX1_ok 1 (by decide)) rfl rfl (Nat.le_of_ble_eq_true rfl) dX1_flow_2 (fun H locs hP hD hS => ?_)
  have hP : va_P D vwCl [(ob, .inr (1, [.ref ob_0, .int p1, .int obv2])), (ob_0, .inl (k 0, 8, .inl obg0)), (tn, .inr (10, [.int tnv0, .int tnv1, .int tnv2, .ref tn_3, .ref tn_4, .ref tn_5, .ref tn_6, .int tnv7, .int tnv8, .ref tn_9, .ref tn_10, .int tnv11, .ref tn_12, .ref tn_13, .ref tn_14, .ref tn_15, .int tnv16, .ref tn_17, .ref tn_18, .ref tnt])), (tn_3, .inl (k 0, 10, .inl tng3)), (tn_4, .inl (k 0, 10, .inl tng4)), (tn_5, .inl (k 0, 10, .inl tng5))] H := hP
  have hD : va_D A [(ob, .inr (1, [.ref ob_0, .int p1, .int obv2])), (ob_0, .inl (k 0, 8, .inl obg0)), (tn, .inr (10, [.int tnv0, .int tnv1, .int tnv2, .ref tn_3, .ref tn_4, .ref tn_5, .ref tn_6, .int tnv7, .int tnv8, .ref tn_9, .ref tn_10, .int tnv11, .ref tn_12, .ref tn_13, .ref tn_14, .ref tn_15, .int tnv16, .ref tn_17, .ref tn_18, .ref tnt])), (tn_3, .inl (k 0, 10, .inl tng3)), (tn_4, .inl (k 0, 10, .inl tng4)), (tn_5, .inl (k 0, 10, .inl tng5))] := hD
  refine lv_aload_n hx hb dX1_flow_5 rfl (lv_at hl 0 rfl) ?_
  refine lv_iload_n hx hb dX1_flow_6 rfl (lv_at hl 3 rfl) ?_
  refine va_put (D := D) (ci := 1) (v := .int p2) (ty := tyX1 2) (C := RX1) (T := TX1) (N := 3) hx hb hts iT_X1 tyX1 tyX1_ok nmX1 hown hK hP hD hS 0 rfl rfl 2 (by decide) (hts _ tw_2_25) (fun _ h9 => h9) rfl (tyX1_ok 2 (by decide)) rfl rfl (Nat.le_of_ble_eq_true rfl) dX1_flow_7 (fun H locs hP hD hS => ?_)
  have hP : va_P D vwCl [(ob, .inr (1, [.ref ob_0, .int p1, .int p2])), (ob_0, .inl (k 0, 8, .inl obg0)), (tn, .inr (10, [.int tnv0, .int tnv1, .int tnv2, .ref tn_3, .ref tn_4, .ref tn_5, .ref tn_6, .int tnv7, .int tnv8, .ref tn_9, .ref tn_10, .int tnv11, .ref tn_12, .ref tn_13, .ref tn_14, .ref tn_15, .int tnv16, .ref tn_17, .ref tn_18, .ref tnt])), (tn_3, .inl (k 0, 10, .inl tng3)), (tn_4, .inl (k 0, 10, .inl tng4)), (tn_5, .inl (k 0, 10, .inl tng5))] H := hP
  have hD : va_D A [(ob, .inr (1, [.ref ob_0, .int p1, .int p2])), (ob_0, .inl (k 0, 8, .inl obg0)), (tn, .inr (10, [.int tnv0, .int tnv1, .int tnv2, .ref tn_3, .ref tn_4, .ref tn_5, .ref tn_6, .int tnv7, .int tnv8, .ref tn_9, .ref tn_10, .int tnv11, .ref tn_12, .ref tn_13, .ref tn_14, .ref tn_15, .int tnv16, .ref tn_17, .ref tn_18, .ref tnt])), (tn_3, .inl (k 0, 10, .inl tng3)), (tn_4, .inl (k 0, 10, .inl tng4)), (tn_5, .inl (k 0, 10, .inl tng5))] := hD
  refine lv_iconst (v := 1) hx hb dX1_flow_10 (by decide) ?_
  refine lv_istore (lv' := [(4, .int 1), (0, .ref ob), (1, .ref tn), (2, .int p1), (3, .int p2)]) hx hb dX1_flow_11 hl (by decide) rfl (fun ls hl => ?_)
  refine lv_iconst (v := 0) hx hb dX1_flow_13 (by decide) ?_
  refine lv_istore (lv' := [(5, .int 0), (4, .int 1), (0, .ref ob), (1, .ref tn), (2, .int p1), (3, .int p2)]) hx hb dX1_flow_14 hl (by decide) rfl (fun ls hl => ?_)
  refine loop_r (Wg := fun H locs ls => W p l e _ s m _ below meth c H locs _ _ _ (F0 m 16 ls [])) (fun n9 H locs ls => ∃ (L16l4 : Int32) (L16l5 : Int32) (L16a1 : Nat → Int32), n9 = (8 - L16l5.toInt).toNat ∧ (0 ≤ L16l4.toInt ∧ L16l4.toInt ≤ 1) ∧ (0 ≤ L16l5.toInt ∧ L16l5.toInt ≤ 8) ∧ (PR 8 1 0 0 1000000 L16a1) ∧ va_P D vwCl [(ob, .inr (1, [.ref ob_0, .int p1, .int p2])), (ob_0, .inl (k 0, 8, .inl L16a1)), (tn, .inr (10, [.int tnv0, .int tnv1, .int tnv2, .ref tn_3, .ref tn_4, .ref tn_5, .ref tn_6, .int tnv7, .int tnv8, .ref tn_9, .ref tn_10, .int tnv11, .ref tn_12, .ref tn_13, .ref tn_14, .ref tn_15, .int tnv16, .ref tn_17, .ref tn_18, .ref tnt])), (tn_3, .inl (k 0, 10, .inl tng3)), (tn_4, .inl (k 0, 10, .inl tng4)), (tn_5, .inl (k 0, 10, .inl tng5))] H ∧ va_D A [(ob, .inr (1, [.ref ob_0, .int p1, .int p2])), (ob_0, .inl (k 0, 8, .inl L16a1)), (tn, .inr (10, [.int tnv0, .int tnv1, .int tnv2, .ref tn_3, .ref tn_4, .ref tn_5, .ref tn_6, .int tnv7, .int tnv8, .ref tn_9, .ref tn_10, .int tnv11, .ref tn_12, .ref tn_13, .ref tn_14, .ref tn_15, .int tnv16, .ref tn_17, .ref tn_18, .ref tnt])), (tn_3, .inl (k 0, 10, .inl tng3)), (tn_4, .inl (k 0, 10, .inl tng4)), (tn_5, .inl (k 0, 10, .inl tng5))] ∧ va_S A s.heap H locs ∧ lv_has ls 10 [(0, .ref ob), (1, .ref tn), (2, .int p1), (3, .int p2), (4, .int L16l4), (5, .int L16l5)]) (fun n9 H locs ls hI ih_1 => ?_) _ _ _ _ ⟨1, 0, obg0, rfl, (show 0 ≤ 1 ∧ 1 ≤ 1 from by omega), (show 0 ≤ 0 ∧ 0 ≤ 8 from by omega), hp_obg0_0, hP.sub (ws' := [(ob, .inr (1, [.ref ob_0, .int p1, .int p2])), (ob_0, .inl (k 0, 8, .inl obg0)), (tn, .inr (10, [.int tnv0, .int tnv1, .int tnv2, .ref tn_3, .ref tn_4, .ref tn_5, .ref tn_6, .int tnv7, .int tnv8, .ref tn_9, .ref tn_10, .int tnv11, .ref tn_12, .ref tn_13, .ref tn_14, .ref tn_15, .int tnv16, .ref tn_17, .ref tn_18, .ref tnt])), (tn_3, .inl (k 0, 10, .inl tng3)), (tn_4, .inl (k 0, 10, .inl tng4)), (tn_5, .inl (k 0, 10, .inl tng5))]) [0, 1, 2, 3, 4, 5] rfl, hD.sub (ws' := [(ob, .inr (1, [.ref ob_0, .int p1, .int p2])), (ob_0, .inl (k 0, 8, .inl obg0)), (tn, .inr (10, [.int tnv0, .int tnv1, .int tnv2, .ref tn_3, .ref tn_4, .ref tn_5, .ref tn_6, .int tnv7, .int tnv8, .ref tn_9, .ref tn_10, .int tnv11, .ref tn_12, .ref tn_13, .ref tn_14, .ref tn_15, .int tnv16, .ref tn_17, .ref tn_18, .ref tnt])), (tn_3, .inl (k 0, 10, .inl tng3)), (tn_4, .inl (k 0, 10, .inl tng4)), (tn_5, .inl (k 0, 10, .inl tng5))]) [0, 1, 2, 3, 4, 5] (by decide +kernel) rfl, hS, lv_sub hl [2, 3, 4, 5, 1, 0] rfl⟩
  clear hP hD hS hl
  obtain ⟨L16l4, L16l5, L16a1, en_2, zL16l4, zL16l5, L16a1h0, hP, hD, hS, hl⟩ := hI
  refine lv_iload hx hb dX1_flow_16 (lv_at hl 4 rfl) ?_
  refine lv_if_eq (tgt := 180) hx hb dX1_flow_18 (by decide) (fun h_3 => ?_) (fun h_3 => ?_)
  · skip
    have zh_3 : L16l4.toInt = 0 := z_eq h_3
    obtain ⟨hP9, hD9⟩ := sub2 hP hD (ws' := [(ob, .inr (1, [.ref ob_0, .int p1, .int p2])), (ob_0, .inl (k 0, 8, .inl L16a1)), (tn, .inr (10, [.int tnv0, .int tnv1, .int tnv2, .ref tn_3, .ref tn_4, .ref tn_5, .ref tn_6, .int tnv7, .int tnv8, .ref tn_9, .ref tn_10, .int tnv11, .ref tn_12, .ref tn_13, .ref tn_14, .ref tn_15, .int tnv16, .ref tn_17, .ref tn_18, .ref tnt])), (tn_3, .inl (k 0, 10, .inl tng3)), (tn_4, .inl (k 0, 10, .inl tng4)), (tn_5, .inl (k 0, 10, .inl tng5))]) [0, 1, 2, 3, 4, 5] (by decide +kernel) rfl
    exact W.vret hx hb hr (fun tZ ht hW => ⟨⟨(p1, p2, L16a1), rfl, L16a1h0, by rw [ht]; exact hP9, va_K.moved hW.alike hK, hD9⟩, hS.F ht⟩) hS.2.2 dX1_flow_180
  · skip
    have zh_3 : ¬ L16l4.toInt = 0 := z_ne h_3
    refine lv_iload hx hb dX1_flow_21 (lv_at hl 5 rfl) ?_
    refine lv_aload_n hx hb dX1_flow_23 rfl (lv_at hl 1 rfl) ?_
    refine va_get (D := D) (ci := 10) (v := .int tnv0) (C := RX10) (T := TX10) (N := 20) hx hb hts iT_X10 hown hK hP 2 rfl rfl 0 (by decide) (hts _ tw_1_70) (fun _ h9 => h9) rfl dX1_flow_24 ?_
    refine lv_icmp_ge (tgt := 180) hx hb dX1_flow_27 (by decide) (fun h_4 => ?_) (fun h_4 => ?_)
    · skip
      have zh_4 : tnv0.toInt ≤ L16l5.toInt := z_le h_4
      obtain ⟨hP9, hD9⟩ := sub2 hP hD (ws' := [(ob, .inr (1, [.ref ob_0, .int p1, .int p2])), (ob_0, .inl (k 0, 8, .inl L16a1)), (tn, .inr (10, [.int tnv0, .int tnv1, .int tnv2, .ref tn_3, .ref tn_4, .ref tn_5, .ref tn_6, .int tnv7, .int tnv8, .ref tn_9, .ref tn_10, .int tnv11, .ref tn_12, .ref tn_13, .ref tn_14, .ref tn_15, .int tnv16, .ref tn_17, .ref tn_18, .ref tnt])), (tn_3, .inl (k 0, 10, .inl tng3)), (tn_4, .inl (k 0, 10, .inl tng4)), (tn_5, .inl (k 0, 10, .inl tng5))]) [0, 1, 2, 3, 4, 5] (by decide +kernel) rfl
      exact W.vret hx hb hr (fun tZ ht hW => ⟨⟨(p1, p2, L16a1), rfl, L16a1h0, by rw [ht]; exact hP9, va_K.moved hW.alike hK, hD9⟩, hS.F ht⟩) hS.2.2 dX1_flow_180
    · skip
      have zh_4 : L16l5.toInt < tnv0.toInt := z_nle h_4
      refine lv_iconst (v := 0) hx hb dX1_flow_30 (by decide) ?_
      refine lv_istore (lv' := [(4, .int 0), (0, .ref ob), (1, .ref tn), (2, .int p1), (3, .int p2), (5, .int L16l5)]) hx hb dX1_flow_31 hl (by decide) rfl (fun ls hl => ?_)
      refine lv_iconst (v := 0) hx hb dX1_flow_33 (by decide) ?_
      refine lv_istore (lv' := [(6, .int 0), (4, .int 0), (0, .ref ob), (1, .ref tn), (2, .int p1), (3, .int p2), (5, .int L16l5)]) hx hb dX1_flow_34 hl (by decide) rfl (fun ls hl => ?_)
      refine loop_r (Wg := fun H locs ls => W p l e _ s m _ below meth c H locs _ _ _ (F0 m 36 ls [])) (fun n9 H locs ls => ∃ (L36l4 : Int32) (L36l6 : Int32) (L36a1 : Nat → Int32), n9 = (10 - L36l6.toInt).toNat ∧ (0 ≤ L36l4.toInt ∧ L36l4.toInt ≤ 1) ∧ (0 ≤ L36l6.toInt ∧ L36l6.toInt ≤ 10) ∧ (PR 8 1 0 0 1000000 L36a1) ∧ va_P D vwCl [(ob, .inr (1, [.ref ob_0, .int p1, .int p2])), (ob_0, .inl (k 0, 8, .inl L36a1)), (tn, .inr (10, [.int tnv0, .int tnv1, .int tnv2, .ref tn_3, .ref tn_4, .ref tn_5, .ref tn_6, .int tnv7, .int tnv8, .ref tn_9, .ref tn_10, .int tnv11, .ref tn_12, .ref tn_13, .ref tn_14, .ref tn_15, .int tnv16, .ref tn_17, .ref tn_18, .ref tnt])), (tn_3, .inl (k 0, 10, .inl tng3)), (tn_4, .inl (k 0, 10, .inl tng4)), (tn_5, .inl (k 0, 10, .inl tng5))] H ∧ va_D A [(ob, .inr (1, [.ref ob_0, .int p1, .int p2])), (ob_0, .inl (k 0, 8, .inl L36a1)), (tn, .inr (10, [.int tnv0, .int tnv1, .int tnv2, .ref tn_3, .ref tn_4, .ref tn_5, .ref tn_6, .int tnv7, .int tnv8, .ref tn_9, .ref tn_10, .int tnv11, .ref tn_12, .ref tn_13, .ref tn_14, .ref tn_15, .int tnv16, .ref tn_17, .ref tn_18, .ref tnt])), (tn_3, .inl (k 0, 10, .inl tng3)), (tn_4, .inl (k 0, 10, .inl tng4)), (tn_5, .inl (k 0, 10, .inl tng5))] ∧ va_S A s.heap H locs ∧ lv_has ls 10 [(0, .ref ob), (1, .ref tn), (2, .int p1), (3, .int p2), (4, .int L36l4), (5, .int L16l5), (6, .int L36l6)]) (fun n9 H locs ls hI ih_5 => ?_) _ _ _ _ ⟨0, 0, L16a1, rfl, (show 0 ≤ 0 ∧ 0 ≤ 1 from by omega), (show 0 ≤ 0 ∧ 0 ≤ 10 from by omega), L16a1h0, hP.sub (ws' := [(ob, .inr (1, [.ref ob_0, .int p1, .int p2])), (ob_0, .inl (k 0, 8, .inl L16a1)), (tn, .inr (10, [.int tnv0, .int tnv1, .int tnv2, .ref tn_3, .ref tn_4, .ref tn_5, .ref tn_6, .int tnv7, .int tnv8, .ref tn_9, .ref tn_10, .int tnv11, .ref tn_12, .ref tn_13, .ref tn_14, .ref tn_15, .int tnv16, .ref tn_17, .ref tn_18, .ref tnt])), (tn_3, .inl (k 0, 10, .inl tng3)), (tn_4, .inl (k 0, 10, .inl tng4)), (tn_5, .inl (k 0, 10, .inl tng5))]) [0, 1, 2, 3, 4, 5] rfl, hD.sub (ws' := [(ob, .inr (1, [.ref ob_0, .int p1, .int p2])), (ob_0, .inl (k 0, 8, .inl L16a1)), (tn, .inr (10, [.int tnv0, .int tnv1, .int tnv2, .ref tn_3, .ref tn_4, .ref tn_5, .ref tn_6, .int tnv7, .int tnv8, .ref tn_9, .ref tn_10, .int tnv11, .ref tn_12, .ref tn_13, .ref tn_14, .ref tn_15, .int tnv16, .ref tn_17, .ref tn_18, .ref tnt])), (tn_3, .inl (k 0, 10, .inl tng3)), (tn_4, .inl (k 0, 10, .inl tng4)), (tn_5, .inl (k 0, 10, .inl tng5))]) [0, 1, 2, 3, 4, 5] (by decide +kernel) rfl, hS, lv_sub hl [2, 3, 4, 5, 1, 6, 0] rfl⟩
      clear hP hD hS hl
      obtain ⟨L36l4, L36l6, L36a1, en_6, zL36l4, zL36l6, L36a1h0, hP, hD, hS, hl⟩ := hI
      refine lv_iload hx hb dX1_flow_36 (lv_at hl 6 rfl) ?_
      refine lv_aload_n hx hb dX1_flow_38 rfl (lv_at hl 1 rfl) ?_
      refine va_get (D := D) (ci := 10) (v := .int tnv2) (C := RX10) (T := TX10) (N := 20) hx hb hts iT_X10 hown hK hP 2 rfl rfl 2 (by decide) (hts _ tw_1_81) (fun _ h9 => h9) rfl dX1_flow_39 ?_
      refine lv_icmp_ge (tgt := 174) hx hb dX1_flow_42 (by decide) (fun h_7 => ?_) (fun h_7 => ?_)
      · skip
        have zh_7 : tnv2.toInt ≤ L36l6.toInt := z_le h_7
        obtain ⟨x_8, ex_8⟩ : ∃ y : Int32, y = L16l5 + 1 := ⟨_, rfl⟩
        have zx_8 : x_8.toInt = L16l5.toInt + 1 := by rw [ex_8]; exact z_add rfl rfl (by omega) (by omega)
        refine lv_iinc (v := x_8) (lv' := [(5, .int x_8), (0, .ref ob), (1, .ref tn), (2, .int p1), (3, .int p2), (4, .int L36l4), (6, .int L36l6)]) hx hb dX1_flow_174 hl (k := 5) rfl (by rw [ex_8]; rfl) (by decide) rfl (fun ls hl => ?_)
        refine lv_goto (tgt := 16) hx hb dX1_flow_177 (by decide) ?_
        exact ih_1 _ _ _ _ (by omega) ⟨L36l4, x_8, L36a1, rfl, (show 0 ≤ L36l4.toInt ∧ L36l4.toInt ≤ 1 from by omega), (show 0 ≤ x_8.toInt ∧ x_8.toInt ≤ 8 from by omega), L36a1h0, hP.sub (ws' := [(ob, .inr (1, [.ref ob_0, .int p1, .int p2])), (ob_0, .inl (k 0, 8, .inl L36a1)), (tn, .inr (10, [.int tnv0, .int tnv1, .int tnv2, .ref tn_3, .ref tn_4, .ref tn_5, .ref tn_6, .int tnv7, .int tnv8, .ref tn_9, .ref tn_10, .int tnv11, .ref tn_12, .ref tn_13, .ref tn_14, .ref tn_15, .int tnv16, .ref tn_17, .ref tn_18, .ref tnt])), (tn_3, .inl (k 0, 10, .inl tng3)), (tn_4, .inl (k 0, 10, .inl tng4)), (tn_5, .inl (k 0, 10, .inl tng5))]) [0, 1, 2, 3, 4, 5] rfl, hD.sub (ws' := [(ob, .inr (1, [.ref ob_0, .int p1, .int p2])), (ob_0, .inl (k 0, 8, .inl L36a1)), (tn, .inr (10, [.int tnv0, .int tnv1, .int tnv2, .ref tn_3, .ref tn_4, .ref tn_5, .ref tn_6, .int tnv7, .int tnv8, .ref tn_9, .ref tn_10, .int tnv11, .ref tn_12, .ref tn_13, .ref tn_14, .ref tn_15, .int tnv16, .ref tn_17, .ref tn_18, .ref tnt])), (tn_3, .inl (k 0, 10, .inl tng3)), (tn_4, .inl (k 0, 10, .inl tng4)), (tn_5, .inl (k 0, 10, .inl tng5))]) [0, 1, 2, 3, 4, 5] (by decide +kernel) rfl, hS, lv_sub hl [1, 2, 3, 4, 5, 0] rfl⟩
      · skip
        have zh_7 : L36l6.toInt < tnv2.toInt := z_nle h_7
        refine lv_aload_n hx hb dX1_flow_45 rfl (lv_at hl 0 rfl) ?_
        refine va_get (D := D) (ci := 1) (v := .int p1) (C := RX1) (T := TX1) (N := 3) hx hb hts iT_X1 hown hK hP 0 rfl rfl 1 (by decide) (hts _ tw_2_24) (fun _ h9 => h9) rfl dX1_flow_46 ?_
        refine lv_iload hx hb dX1_flow_49 (lv_at hl 6 rfl) ?_
        refine lv_ishr hx hb dX1_flow_51 ?_
        refine lv_topi (fun x_9 ex_9 => ?_)
        have zrp1 := z_rng p1
        refine lv_iconst (v := 1) hx hb dX1_flow_52 (by decide) ?_
        refine lv_iand hx hb dX1_flow_53 ?_
        refine lv_topi (fun x_10 ex_10 => ?_)
        have zrx_9 := z_rng x_9
        have zx_10 : 0 ≤ x_10.toInt ∧ x_10.toInt < 2 := by rw [ex_10]; exact z_and _ 1 2 rfl rfl (by decide)
        refine lv_iconst (v := 1) hx hb dX1_flow_54 (by decide) ?_
        refine lv_icmp_ne (tgt := 168) hx hb dX1_flow_55 (by decide) (fun h_11 => ?_) (fun h_11 => ?_)
        · skip
          have zh_11 : ¬ x_10.toInt = 1 := z_ne h_11
          obtain ⟨x_12, ex_12⟩ : ∃ y : Int32, y = L36l6 + 1 := ⟨_, rfl⟩
          have zx_12 : x_12.toInt = L36l6.toInt + 1 := by rw [ex_12]; exact z_add rfl rfl (by omega) (by omega)
          refine lv_iinc (v := x_12) (lv' := [(6, .int x_12), (0, .ref ob), (1, .ref tn), (2, .int p1), (3, .int p2), (4, .int L36l4), (5, .int L16l5)]) hx hb dX1_flow_168 hl (k := 6) rfl (by rw [ex_12]; rfl) (by decide) rfl (fun ls hl => ?_)
          refine lv_goto (tgt := 36) hx hb dX1_flow_171 (by decide) ?_
          exact ih_5 _ _ _ _ (by omega) ⟨L36l4, x_12, L36a1, rfl, (show 0 ≤ L36l4.toInt ∧ L36l4.toInt ≤ 1 from by omega), (show 0 ≤ x_12.toInt ∧ x_12.toInt ≤ 10 from by omega), L36a1h0, hP.sub (ws' := [(ob, .inr (1, [.ref ob_0, .int p1, .int p2])), (ob_0, .inl (k 0, 8, .inl L36a1)), (tn, .inr (10, [.int tnv0, .int tnv1, .int tnv2, .ref tn_3, .ref tn_4, .ref tn_5, .ref tn_6, .int tnv7, .int tnv8, .ref tn_9, .ref tn_10, .int tnv11, .ref tn_12, .ref tn_13, .ref tn_14, .ref tn_15, .int tnv16, .ref tn_17, .ref tn_18, .ref tnt])), (tn_3, .inl (k 0, 10, .inl tng3)), (tn_4, .inl (k 0, 10, .inl tng4)), (tn_5, .inl (k 0, 10, .inl tng5))]) [0, 1, 2, 3, 4, 5] rfl, hD.sub (ws' := [(ob, .inr (1, [.ref ob_0, .int p1, .int p2])), (ob_0, .inl (k 0, 8, .inl L36a1)), (tn, .inr (10, [.int tnv0, .int tnv1, .int tnv2, .ref tn_3, .ref tn_4, .ref tn_5, .ref tn_6, .int tnv7, .int tnv8, .ref tn_9, .ref tn_10, .int tnv11, .ref tn_12, .ref tn_13, .ref tn_14, .ref tn_15, .int tnv16, .ref tn_17, .ref tn_18, .ref tnt])), (tn_3, .inl (k 0, 10, .inl tng3)), (tn_4, .inl (k 0, 10, .inl tng4)), (tn_5, .inl (k 0, 10, .inl tng5))]) [0, 1, 2, 3, 4, 5] (by decide +kernel) rfl, hS, lv_sub hl [1, 2, 3, 4, 5, 6, 0] rfl⟩
        · skip
          have zh_11 : x_10.toInt = 1 := z_eq h_11
          refine lv_aload_n hx hb dX1_flow_58 rfl (lv_at hl 1 rfl) ?_
          refine va_get (D := D) (ci := 10) (v := .ref tn_3) (C := RX10) (T := TX10) (N := 20) hx hb hts iT_X10 hown hK hP 2 rfl rfl 3 (by decide) (hts _ tw_1_87) (fun _ h9 => h9) rfl dX1_flow_59 ?_
          refine lv_iload hx hb dX1_flow_62 (lv_at hl 6 rfl) ?_
          refine va_iald hx hb hK hP 3 0 rfl rfl (z_in (by omega) (by omega)) dX1_flow_64 ?_
          refine lv_topi (fun x_13 ex_13 => ?_)
          have zx_13r0 : 0 ≤ x_13.toInt ∧ x_13.toInt ≤ 7 := by rw [ex_13]; exact PR.ld hp_tng3_0 (by omega) (by omega) (by omega)
          refine lv_istore (lv' := [(7, .int x_13), (0, .ref ob), (1, .ref tn), (2, .int p1), (3, .int p2), (4, .int L36l4), (5, .int L16l5), (6, .int L36l6)]) hx hb dX1_flow_65 hl (by decide) rfl (fun ls hl => ?_)
          refine lv_aload_n hx hb dX1_flow_67 rfl (lv_at hl 2 rfl) ?_
          refine va_get (D := D) (ci := 10) (v := .ref tn_4) (C := RX10) (T := TX10) (N := 20) hx hb hts iT_X10 hown hK hP 2 rfl rfl 4 (by decide) (hts _ tw_1_91) (fun _ h9 => h9) rfl dX1_flow_68 ?_
          refine lv_iload hx hb dX1_flow_71 (lv_at hl 7 rfl) ?_
          refine va_iald hx hb hK hP 4 0 rfl rfl (z_in (by omega) (by omega)) dX1_flow_73 ?_
          refine lv_topi (fun x_14 ex_14 => ?_)
          have zx_14r0 : 0 ≤ x_14.toInt ∧ x_14.toInt ≤ 7 := by rw [ex_14]; exact PR.ld hp_tng4_0 (by omega) (by omega) (by omega)
          refine lv_istore (lv' := [(8, .int x_14), (7, .int x_13), (0, .ref ob), (1, .ref tn), (2, .int p1), (3, .int p2), (4, .int L36l4), (5, .int L16l5), (6, .int L36l6)]) hx hb dX1_flow_74 hl (by decide) rfl (fun ls hl => ?_)
          refine lv_aload_n hx hb dX1_flow_76 rfl (lv_at hl 2 rfl) ?_
          refine lv_aload_n hx hb dX1_flow_77 rfl (lv_at hl 3 rfl) ?_
          refine lv_iload hx hb dX1_flow_78 (lv_at hl 8 rfl) ?_
          obtain ⟨hPc, hDc, hFc⟩ := sub3 hP hD hS hA (ws' := [(ob, .inr (1, [.ref ob_0, .int p1, .int p2])), (tn, .inr (10, [.int tnv0, .int tnv1, .int tnv2, .ref tn_3, .ref tn_4, .ref tn_5, .ref tn_6, .int tnv7, .int tnv8, .ref tn_9, .ref tn_10, .int tnv11, .ref tn_12, .ref tn_13, .ref tn_14, .ref tn_15, .int tnv16, .ref tn_17, .ref tn_18, .ref tnt])), (tn_5, .inl (k 0, 10, .inl tng5))]) [0, 2, 5] (by decide +kernel) rfl
          refine va_calli (va_runV (C := RX1) (As := [.ref tn, .int L36l6]) (rest := []) ⟨hx, hb, hml, hown, hts⟩ (c_X1_minutesOf l D k ob tn L36l6 ob_0 p1 p2 tnv0 tnv1 tnv2 tn_3 tn_4 tn_5 tn_6 tnv7 tnv8 tn_9 tn_10 tnv11 tn_12 tn_13 tn_14 tn_15 tnv16 tn_17 tn_18 tnt tng5 H.size (show 0 ≤ L36l6.toInt ∧ L36l6.toInt ≤ 9 from by omega) (show 0 ≤ tnv0.toInt ∧ tnv0.toInt ≤ 8 from by omega) (show 0 ≤ tnv2.toInt ∧ tnv2.toInt ≤ 10 from by omega) (show 0 ≤ tnv8.toInt ∧ tnv8.toInt ≤ 4 from by omega) (show 0 ≤ tnv11.toInt ∧ tnv11.toInt ≤ 6 from by omega) (show 0 ≤ tnv16.toInt ∧ tnv16.toInt ≤ 2 from by omega) hp_tng5_0) (cwV 2 hts (gV tw_3_203 tw_3_205 tw_p_21 tw_1_6 tw_3_206) rfl rfl rfl hdV_X1_minutesOf ⟨Nat.le_of_ble_eq_true rfl, Nat.le_of_ble_eq_true rfl⟩) (cz_V hK hPc hDc hN (ci := 1) (q0 := 0) rfl rfl [.ref tn, .int L36l6]) rfl rfl hl.1 rfl (lv_room (Nat.le_of_ble_eq_true rfl)) dX1_flow_80 ⟨Nat.le_of_ble_eq_true rfl, Nat.le_of_ble_eq_true rfl⟩) hS (fun q _ h => hFc q h) hFc (fun r_15 uZ tZ H1 locs ht hvm hw hB hz1 hk1 hS => ?_)
          obtain ⟨hP1, hK1, hD1⟩ := hB
          rw [ht] at hP1
          obtain ⟨hP, hD⟩ := va_join (wr := [(ob_0, .inl (k 0, 8, .inl L36a1)), (tn_3, .inl (k 0, 10, .inl tng3)), (tn_4, .inl (k 0, 10, .inl tng4))]) (w1 := [(ob, .inr (1, [.ref ob_0, .int p1, .int p2])), (tn, .inr (10, [.int tnv0, .int tnv1, .int tnv2, .ref tn_3, .ref tn_4, .ref tn_5, .ref tn_6, .int tnv7, .int tnv8, .ref tn_9, .ref tn_10, .int tnv11, .ref tn_12, .ref tn_13, .ref tn_14, .ref tn_15, .int tnv16, .ref tn_17, .ref tn_18, .ref tnt])), (tn_5, .inl (k 0, 10, .inl tng5))]) hP hD [0, 2, 5] [1, 3, 4] rfl rfl (by decide +kernel) (by decide +kernel) hk1 hFc hP1 hD1
          clear hK1 hP1 hD1 hPc hDc hFc
          clear hk1 hz1 ht hvm
          have hP : va_P D vwCl [(ob_0, .inl (k 0, 8, .inl L36a1)), (tn_3, .inl (k 0, 10, .inl tng3)), (tn_4, .inl (k 0, 10, .inl tng4)), (ob, .inr (1, [.ref ob_0, .int p1, .int p2])), (tn, .inr (10, [.int tnv0, .int tnv1, .int tnv2, .ref tn_3, .ref tn_4, .ref tn_5, .ref tn_6, .int tnv7, .int tnv8, .ref tn_9, .ref tn_10, .int tnv11, .ref tn_12, .ref tn_13, .ref tn_14, .ref tn_15, .int tnv16, .ref tn_17, .ref tn_18, .ref tnt])), (tn_5, .inl (k 0, 10, .inl tng5))] H1 := hP
          have hD : va_D A [(ob_0, .inl (k 0, 8, .inl L36a1)), (tn_3, .inl (k 0, 10, .inl tng3)), (tn_4, .inl (k 0, 10, .inl tng4)), (ob, .inr (1, [.ref ob_0, .int p1, .int p2])), (tn, .inr (10, [.int tnv0, .int tnv1, .int tnv2, .ref tn_3, .ref tn_4, .ref tn_5, .ref tn_6, .int tnv7, .int tnv8, .ref tn_9, .ref tn_10, .int tnv11, .ref tn_12, .ref tn_13, .ref tn_14, .ref tn_15, .int tnv16, .ref tn_17, .ref tn_18, .ref tnt])), (tn_5, .inl (k 0, 10, .inl tng5))] := hD
          generalize H1 = H at hP hS ⊢
          have hw_16 : (0 ≤ r_15.toInt ∧ r_15.toInt ≤ 70) := hw
          have hw_17 := hw_16
          clear hw
          refine lv_istore (lv' := [(9, .int r_15), (8, .int x_14), (7, .int x_13), (0, .ref ob), (1, .ref tn), (2, .int p1), (3, .int p2), (4, .int L36l4), (5, .int L16l5), (6, .int L36l6)]) hx hb dX1_flow_83 hl (by decide) rfl (fun ls hl => ?_)
          refine lv_aload_n hx hb dX1_flow_85 rfl (lv_at hl 3 rfl) ?_
          refine va_get (D := D) (ci := 1) (v := .ref ob_0) (C := RX1) (T := TX1) (N := 3) hx hb hts iT_X1 hown hK hP 3 rfl rfl 0 (by decide) (hts _ tw_2_17) (fun _ h9 => h9) rfl dX1_flow_86 ?_
          refine lv_iload hx hb dX1_flow_89 (lv_at hl 2 rfl) ?_
          refine va_iald hx hb hK hP 0 0 rfl rfl (z_in (by omega) (by omega)) dX1_flow_91 ?_
          refine lv_topi (fun x_18 ex_18 => ?_)
          have zx_18r0 : 0 ≤ x_18.toInt ∧ x_18.toInt ≤ 1000000 := by rw [ex_18]; exact PR.ld L36a1h0 (by omega) (by omega) (by omega)
          refine lv_iload hx hb dX1_flow_92 (lv_at hl 0 rfl) ?_
          refine lv_iadd hx hb dX1_flow_94 ?_
          refine lv_topi (fun x_19 ex_19 => ?_)
          have zx_19 : x_19.toInt = x_18.toInt + r_15.toInt := by rw [ex_19]; exact z_add rfl rfl (by omega) (by omega)
          refine lv_aload_n hx hb dX1_flow_95 rfl (lv_at hl 3 rfl) ?_
          refine va_get (D := D) (ci := 1) (v := .ref ob_0) (C := RX1) (T := TX1) (N := 3) hx hb hts iT_X1 hown hK hP 3 rfl rfl 0 (by decide) (hts _ tw_2_17) (fun _ h9 => h9) rfl dX1_flow_96 ?_
          refine lv_iload hx hb dX1_flow_99 (lv_at hl 1 rfl) ?_
          refine va_iald hx hb hK hP 0 0 rfl rfl (z_in (by omega) (by omega)) dX1_flow_101 ?_
          refine lv_topi (fun x_20 ex_20 => ?_)
          have zx_20r0 : 0 ≤ x_20.toInt ∧ x_20.toInt ≤ 1000000 := by rw [ex_20]; exact PR.ld L36a1h0 (by omega) (by omega) (by omega)
          refine lv_icmp_ge (tgt := 128) hx hb dX1_flow_102 (by decide) (fun h_21 => ?_) (fun h_21 => ?_)
          · skip
            have zh_21 : x_20.toInt ≤ x_19.toInt := z_le h_21
            refine lv_aload_n hx hb dX1_flow_128 rfl (lv_at hl 3 rfl) ?_
            refine va_get (D := D) (ci := 1) (v := .ref ob_0) (C := RX1) (T := TX1) (N := 3) hx hb hts iT_X1 hown hK hP 3 rfl rfl 0 (by decide) (hts _ tw_2_17) (fun _ h9 => h9) rfl dX1_flow_129 ?_
            refine lv_iload hx hb dX1_flow_132 (lv_at hl 1 rfl) ?_
            refine va_iald hx hb hK hP 0 0 rfl rfl (z_in (by omega) (by omega)) dX1_flow_134 ?_
            refine lv_topi (fun x_22 ex_22 => ?_)
            obtain rfl : x_20 = x_22 := ex_20.trans ex_22.symm
            refine lv_iload hx hb dX1_flow_135 (lv_at hl 0 rfl) ?_
            refine lv_iadd hx hb dX1_flow_137 ?_
            refine lv_topi (fun x_23 ex_23 => ?_)
            have zx_23 : x_23.toInt = x_20.toInt + r_15.toInt := by rw [ex_23]; exact z_add rfl rfl (by omega) (by omega)
            refine lv_aload_n hx hb dX1_flow_138 rfl (lv_at hl 3 rfl) ?_
            refine va_get (D := D) (ci := 1) (v := .ref ob_0) (C := RX1) (T := TX1) (N := 3) hx hb hts iT_X1 hown hK hP 3 rfl rfl 0 (by decide) (hts _ tw_2_17) (fun _ h9 => h9) rfl dX1_flow_139 ?_
            refine lv_iload hx hb dX1_flow_142 (lv_at hl 2 rfl) ?_
            refine va_iald hx hb hK hP 0 0 rfl rfl (z_in (by omega) (by omega)) dX1_flow_144 ?_
            refine lv_topi (fun x_24 ex_24 => ?_)
            obtain rfl : x_18 = x_24 := ex_18.trans ex_24.symm
            refine lv_icmp_ge (tgt := 168) hx hb dX1_flow_145 (by decide) (fun h_25 => ?_) (fun h_25 => ?_)
            · skip
              have zh_25 : x_18.toInt ≤ x_23.toInt := z_le h_25
              obtain ⟨x_26, ex_26⟩ : ∃ y : Int32, y = L36l6 + 1 := ⟨_, rfl⟩
              have zx_26 : x_26.toInt = L36l6.toInt + 1 := by rw [ex_26]; exact z_add rfl rfl (by omega) (by omega)
              refine lv_iinc (v := x_26) (lv' := [(6, .int x_26), (9, .int r_15), (8, .int x_14), (7, .int x_13), (0, .ref ob), (1, .ref tn), (2, .int p1), (3, .int p2), (4, .int L36l4), (5, .int L16l5)]) hx hb dX1_flow_168 hl (k := 9) rfl (by rw [ex_26]; rfl) (by decide) rfl (fun ls hl => ?_)
              refine lv_goto (tgt := 36) hx hb dX1_flow_171 (by decide) ?_
              exact ih_5 _ _ _ _ (by omega) ⟨L36l4, x_26, L36a1, rfl, (show 0 ≤ L36l4.toInt ∧ L36l4.toInt ≤ 1 from by omega), (show 0 ≤ x_26.toInt ∧ x_26.toInt ≤ 10 from by omega), L36a1h0, hP.sub (ws' := [(ob, .inr (1, [.ref ob_0, .int p1, .int p2])), (ob_0, .inl (k 0, 8, .inl L36a1)), (tn, .inr (10, [.int tnv0, .int tnv1, .int tnv2, .ref tn_3, .ref tn_4, .ref tn_5, .ref tn_6, .int tnv7, .int tnv8, .ref tn_9, .ref tn_10, .int tnv11, .ref tn_12, .ref tn_13, .ref tn_14, .ref tn_15, .int tnv16, .ref tn_17, .ref tn_18, .ref tnt])), (tn_3, .inl (k 0, 10, .inl tng3)), (tn_4, .inl (k 0, 10, .inl tng4)), (tn_5, .inl (k 0, 10, .inl tng5))]) [3, 0, 4, 1, 2, 5] rfl, hD.sub (ws' := [(ob, .inr (1, [.ref ob_0, .int p1, .int p2])), (ob_0, .inl (k 0, 8, .inl L36a1)), (tn, .inr (10, [.int tnv0, .int tnv1, .int tnv2, .ref tn_3, .ref tn_4, .ref tn_5, .ref tn_6, .int tnv7, .int tnv8, .ref tn_9, .ref tn_10, .int tnv11, .ref tn_12, .ref tn_13, .ref tn_14, .ref tn_15, .int tnv16, .ref tn_17, .ref tn_18, .ref tnt])), (tn_3, .inl (k 0, 10, .inl tng3)), (tn_4, .inl (k 0, 10, .inl tng4)), (tn_5, .inl (k 0, 10, .inl tng5))]) [3, 0, 4, 1, 2, 5] (by decide +kernel) rfl, hS, lv_sub hl [4, 5, 6, 7, 8, 9, 0] rfl⟩
            · skip
              have zh_25 : x_23.toInt < x_18.toInt := z_nle h_25
              refine lv_aload_n hx hb dX1_flow_148 rfl (lv_at hl 3 rfl) ?_
              refine va_get (D := D) (ci := 1) (v := .ref ob_0) (C := RX1) (T := TX1) (N := 3) hx hb hts iT_X1 hown hK hP 3 rfl rfl 0 (by decide) (hts _ tw_2_17) (fun _ h9 => h9) rfl dX1_flow_149 ?_
              refine lv_iload hx hb dX1_flow_152 (lv_at hl 2 rfl) ?_
              refine lv_aload_n hx hb dX1_flow_154 rfl (lv_at hl 3 rfl) ?_
              refine va_get (D := D) (ci := 1) (v := .ref ob_0) (C := RX1) (T := TX1) (N := 3) hx hb hts iT_X1 hown hK hP 3 rfl rfl 0 (by decide) (hts _ tw_2_17) (fun _ h9 => h9) rfl dX1_flow_155 ?_
              refine lv_iload hx hb dX1_flow_158 (lv_at hl 1 rfl) ?_
              refine va_iald hx hb hK hP 0 0 rfl rfl (z_in (by omega) (by omega)) dX1_flow_160 ?_
              refine lv_topi (fun x_27 ex_27 => ?_)
              obtain rfl : x_20 = x_27 := ex_20.trans ex_27.symm
              refine lv_iload hx hb dX1_flow_161 (lv_at hl 0 rfl) ?_
              refine lv_iadd hx hb dX1_flow_163 ?_
              refine lv_topi (fun x_28 ex_28 => ?_)
              obtain rfl : x_23 = x_28 := ex_23.trans ex_28.symm
              refine va_iast hx hb hK hP hD hS 0 0 rfl rfl (z_in (by omega) (by omega)) dX1_flow_164 (fun H locs hP hD hS => ?_)
              obtain ⟨g_29, eg_29⟩ : ∃ z : Nat → Int32, upd L36a1 x_13.toNatClampNeg x_23 = z := ⟨_, rfl⟩
              have hP : va_P D vwCl [(ob_0, .inl (k 0, 8, .inl (upd L36a1 x_13.toNatClampNeg x_23))), (tn_3, .inl (k 0, 10, .inl tng3)), (tn_4, .inl (k 0, 10, .inl tng4)), (ob, .inr (1, [.ref ob_0, .int p1, .int p2])), (tn, .inr (10, [.int tnv0, .int tnv1, .int tnv2, .ref tn_3, .ref tn_4, .ref tn_5, .ref tn_6, .int tnv7, .int tnv8, .ref tn_9, .ref tn_10, .int tnv11, .ref tn_12, .ref tn_13, .ref tn_14, .ref tn_15, .int tnv16, .ref tn_17, .ref tn_18, .ref tnt])), (tn_5, .inl (k 0, 10, .inl tng5))] H := hP
              have hD : va_D A [(ob_0, .inl (k 0, 8, .inl (upd L36a1 x_13.toNatClampNeg x_23))), (tn_3, .inl (k 0, 10, .inl tng3)), (tn_4, .inl (k 0, 10, .inl tng4)), (ob, .inr (1, [.ref ob_0, .int p1, .int p2])), (tn, .inr (10, [.int tnv0, .int tnv1, .int tnv2, .ref tn_3, .ref tn_4, .ref tn_5, .ref tn_6, .int tnv7, .int tnv8, .ref tn_9, .ref tn_10, .int tnv11, .ref tn_12, .ref tn_13, .ref tn_14, .ref tn_15, .int tnv16, .ref tn_17, .ref tn_18, .ref tnt])), (tn_5, .inl (k 0, 10, .inl tng5))] := hD
              rw [eg_29] at hP hD
              have hp_30 : PR 8 1 0 0 1000000 g_29 := by rw [← eg_29]; exact PR.put L36a1h0 ⟨by omega, by omega⟩
              refine lv_iconst (v := 1) hx hb dX1_flow_165 (by decide) ?_
              refine lv_istore (lv' := [(4, .int 1), (9, .int r_15), (8, .int x_14), (7, .int x_13), (0, .ref ob), (1, .ref tn), (2, .int p1), (3, .int p2), (5, .int L16l5), (6, .int L36l6)]) hx hb dX1_flow_166 hl (by decide) rfl (fun ls hl => ?_)
              obtain ⟨x_31, ex_31⟩ : ∃ y : Int32, y = L36l6 + 1 := ⟨_, rfl⟩
              have zx_31 : x_31.toInt = L36l6.toInt + 1 := by rw [ex_31]; exact z_add rfl rfl (by omega) (by omega)
              refine lv_iinc (v := x_31) (lv' := [(6, .int x_31), (4, .int 1), (9, .int r_15), (8, .int x_14), (7, .int x_13), (0, .ref ob), (1, .ref tn), (2, .int p1), (3, .int p2), (5, .int L16l5)]) hx hb dX1_flow_168 hl (k := 9) rfl (by rw [ex_31]; rfl) (by decide) rfl (fun ls hl => ?_)
              refine lv_goto (tgt := 36) hx hb dX1_flow_171 (by decide) ?_
              exact ih_5 _ _ _ _ (by omega) ⟨1, x_31, g_29, rfl, (show 0 ≤ 1 ∧ 1 ≤ 1 from by omega), (show 0 ≤ x_31.toInt ∧ x_31.toInt ≤ 10 from by omega), hp_30, hP.sub (ws' := [(ob, .inr (1, [.ref ob_0, .int p1, .int p2])), (ob_0, .inl (k 0, 8, .inl g_29)), (tn, .inr (10, [.int tnv0, .int tnv1, .int tnv2, .ref tn_3, .ref tn_4, .ref tn_5, .ref tn_6, .int tnv7, .int tnv8, .ref tn_9, .ref tn_10, .int tnv11, .ref tn_12, .ref tn_13, .ref tn_14, .ref tn_15, .int tnv16, .ref tn_17, .ref tn_18, .ref tnt])), (tn_3, .inl (k 0, 10, .inl tng3)), (tn_4, .inl (k 0, 10, .inl tng4)), (tn_5, .inl (k 0, 10, .inl tng5))]) [3, 0, 4, 1, 2, 5] rfl, hD.sub (ws' := [(ob, .inr (1, [.ref ob_0, .int p1, .int p2])), (ob_0, .inl (k 0, 8, .inl g_29)), (tn, .inr (10, [.int tnv0, .int tnv1, .int tnv2, .ref tn_3, .ref tn_4, .ref tn_5, .ref tn_6, .int tnv7, .int tnv8, .ref tn_9, .ref tn_10, .int tnv11, .ref tn_12, .ref tn_13, .ref tn_14, .ref tn_15, .int tnv16, .ref tn_17, .ref tn_18, .ref tnt])), (tn_3, .inl (k 0, 10, .inl tng3)), (tn_4, .inl (k 0, 10, .inl tng4)), (tn_5, .inl (k 0, 10, .inl tng5))]) [3, 0, 4, 1, 2, 5] (by decide +kernel) rfl, hS, lv_sub hl [5, 6, 7, 8, 1, 9, 0] rfl⟩
          · skip
            have zh_21 : x_19.toInt < x_20.toInt := z_nle h_21
            refine lv_aload_n hx hb dX1_flow_105 rfl (lv_at hl 3 rfl) ?_
            refine va_get (D := D) (ci := 1) (v := .ref ob_0) (C := RX1) (T := TX1) (N := 3) hx hb hts iT_X1 hown hK hP 3 rfl rfl 0 (by decide) (hts _ tw_2_17) (fun _ h9 => h9) rfl dX1_flow_106 ?_
            refine lv_iload hx hb dX1_flow_109 (lv_at hl 1 rfl) ?_
            refine lv_aload_n hx hb dX1_flow_111 rfl (lv_at hl 3 rfl) ?_
            refine va_get (D := D) (ci := 1) (v := .ref ob_0) (C := RX1) (T := TX1) (N := 3) hx hb hts iT_X1 hown hK hP 3 rfl rfl 0 (by decide) (hts _ tw_2_17) (fun _ h9 => h9) rfl dX1_flow_112 ?_
            refine lv_iload hx hb dX1_flow_115 (lv_at hl 2 rfl) ?_
            refine va_iald hx hb hK hP 0 0 rfl rfl (z_in (by omega) (by omega)) dX1_flow_117 ?_
            refine lv_topi (fun x_32 ex_32 => ?_)
            obtain rfl : x_18 = x_32 := ex_18.trans ex_32.symm
            refine lv_iload hx hb dX1_flow_118 (lv_at hl 0 rfl) ?_
            refine lv_iadd hx hb dX1_flow_120 ?_
            refine lv_topi (fun x_33 ex_33 => ?_)
            obtain rfl : x_19 = x_33 := ex_19.trans ex_33.symm
            refine va_iast hx hb hK hP hD hS 0 0 rfl rfl (z_in (by omega) (by omega)) dX1_flow_121 (fun H locs hP hD hS => ?_)
            obtain ⟨g_34, eg_34⟩ : ∃ z : Nat → Int32, upd L36a1 x_14.toNatClampNeg x_19 = z := ⟨_, rfl⟩
            have hP : va_P D vwCl [(ob_0, .inl (k 0, 8, .inl (upd L36a1 x_14.toNatClampNeg x_19))), (tn_3, .inl (k 0, 10, .inl tng3)), (tn_4, .inl (k 0, 10, .inl tng4)), (ob, .inr (1, [.ref ob_0, .int p1, .int p2])), (tn, .inr (10, [.int tnv0, .int tnv1, .int tnv2, .ref tn_3, .ref tn_4, .ref tn_5, .ref tn_6, .int tnv7, .int tnv8, .ref tn_9, .ref tn_10, .int tnv11, .ref tn_12, .ref tn_13, .ref tn_14, .ref tn_15, .int tnv16, .ref tn_17, .ref tn_18, .ref tnt])), (tn_5, .inl (k 0, 10, .inl tng5))] H := hP
            have hD : va_D A [(ob_0, .inl (k 0, 8, .inl (upd L36a1 x_14.toNatClampNeg x_19))), (tn_3, .inl (k 0, 10, .inl tng3)), (tn_4, .inl (k 0, 10, .inl tng4)), (ob, .inr (1, [.ref ob_0, .int p1, .int p2])), (tn, .inr (10, [.int tnv0, .int tnv1, .int tnv2, .ref tn_3, .ref tn_4, .ref tn_5, .ref tn_6, .int tnv7, .int tnv8, .ref tn_9, .ref tn_10, .int tnv11, .ref tn_12, .ref tn_13, .ref tn_14, .ref tn_15, .int tnv16, .ref tn_17, .ref tn_18, .ref tnt])), (tn_5, .inl (k 0, 10, .inl tng5))] := hD
            rw [eg_34] at hP hD
            have hp_35 : PR 8 1 0 0 1000000 g_34 := by rw [← eg_34]; exact PR.put L36a1h0 ⟨by omega, by omega⟩
            refine lv_iconst (v := 1) hx hb dX1_flow_122 (by decide) ?_
            refine lv_istore (lv' := [(4, .int 1), (9, .int r_15), (8, .int x_14), (7, .int x_13), (0, .ref ob), (1, .ref tn), (2, .int p1), (3, .int p2), (5, .int L16l5), (6, .int L36l6)]) hx hb dX1_flow_123 hl (by decide) rfl (fun ls hl => ?_)
            refine lv_goto (tgt := 168) hx hb dX1_flow_125 (by decide) ?_
            obtain ⟨x_36, ex_36⟩ : ∃ y : Int32, y = L36l6 + 1 := ⟨_, rfl⟩
            have zx_36 : x_36.toInt = L36l6.toInt + 1 := by rw [ex_36]; exact z_add rfl rfl (by omega) (by omega)
            refine lv_iinc (v := x_36) (lv' := [(6, .int x_36), (4, .int 1), (9, .int r_15), (8, .int x_14), (7, .int x_13), (0, .ref ob), (1, .ref tn), (2, .int p1), (3, .int p2), (5, .int L16l5)]) hx hb dX1_flow_168 hl (k := 9) rfl (by rw [ex_36]; rfl) (by decide) rfl (fun ls hl => ?_)
            refine lv_goto (tgt := 36) hx hb dX1_flow_171 (by decide) ?_
            exact ih_5 _ _ _ _ (by omega) ⟨1, x_36, g_34, rfl, (show 0 ≤ 1 ∧ 1 ≤ 1 from by omega), (show 0 ≤ x_36.toInt ∧ x_36.toInt ≤ 10 from by omega), hp_35, hP.sub (ws' := [(ob, .inr (1, [.ref ob_0, .int p1, .int p2])), (ob_0, .inl (k 0, 8, .inl g_34)), (tn, .inr (10, [.int tnv0, .int tnv1, .int tnv2, .ref tn_3, .ref tn_4, .ref tn_5, .ref tn_6, .int tnv7, .int tnv8, .ref tn_9, .ref tn_10, .int tnv11, .ref tn_12, .ref tn_13, .ref tn_14, .ref tn_15, .int tnv16, .ref tn_17, .ref tn_18, .ref tnt])), (tn_3, .inl (k 0, 10, .inl tng3)), (tn_4, .inl (k 0, 10, .inl tng4)), (tn_5, .inl (k 0, 10, .inl tng5))]) [3, 0, 4, 1, 2, 5] rfl, hD.sub (ws' := [(ob, .inr (1, [.ref ob_0, .int p1, .int p2])), (ob_0, .inl (k 0, 8, .inl g_34)), (tn, .inr (10, [.int tnv0, .int tnv1, .int tnv2, .ref tn_3, .ref tn_4, .ref tn_5, .ref tn_6, .int tnv7, .int tnv8, .ref tn_9, .ref tn_10, .int tnv11, .ref tn_12, .ref tn_13, .ref tn_14, .ref tn_15, .int tnv16, .ref tn_17, .ref tn_18, .ref tnt])), (tn_3, .inl (k 0, 10, .inl tng3)), (tn_4, .inl (k 0, 10, .inl tng4)), (tn_5, .inl (k 0, 10, .inl tng5))]) [3, 0, 4, 1, 2, 5] (by decide +kernel) rfl, hS, lv_sub hl [5, 6, 7, 8, 1, 9, 0] rfl⟩
set_option maxHeartbeats 4000000 in
set_option maxRecDepth 100000 in
theorem c_X1_fallHeld (l : Launch) (D : va_G) (k : Nat → ClassId) (ob : Nat) (tn : Nat) (p1 : Int32) (p2 : Int32) (p3 : Int32) (p4 : Int32) (ob_0 : Nat) (obv1 : Int32) (obv2 : Int32) (obg0 : Nat → Int32) (tnv0 : Int32) (tnv1 : Int32) (tnv2 : Int32) (tn_3 : Nat) (tn_4 : Nat) (tn_5 : Nat) (tn_6 : Nat) (tnv7 : Int32) (tnv8 : Int32) (tn_9 : Nat) (tn_10 : Nat) (tnv11 : Int32) (tn_12 : Nat) (tn_13 : Nat) (tn_14 : Nat) (tn_15 : Nat) (tnv16 : Int32) (tn_17 : Nat) (tn_18 : Nat) (tnt : Nat) (tng3 : Nat → Int32) (tng4 : Nat → Int32) (tng5 : Nat → Int32) (tng9 : Nat → Int32) (tng10 : Nat → Int32) (sz : Nat) (h_p2 : 0 ≤ p2.toInt ∧ p2.toInt ≤ 1000000) (hp_obg0_0 : PR 8 1 0 0 1000000 obg0) (h_tnv0 : 0 ≤ tnv0.toInt ∧ tnv0.toInt ≤ 8) (h_tnv2 : 0 ≤ tnv2.toInt ∧ tnv2.toInt ≤ 10) (h_tnv8 : 0 ≤ tnv8.toInt ∧ tnv8.toInt ≤ 4) (h_tnv11 : 0 ≤ tnv11.toInt ∧ tnv11.toInt ≤ 6) (h_tnv16 : 0 ≤ tnv16.toInt ∧ tnv16.toInt ≤ 2) (hp_tng3_0 : PR 10 1 0 0 7 tng3) (hp_tng4_0 : PR 10 1 0 0 7 tng4) (hp_tng5_0 : PR 10 1 0 0 60 tng5) (hp_tng9_0 : PR 4 1 0 0 7 tng9) (hp_tng10_0 : PR 4 1 0 0 99 tng10) : Met l yX1_fallHeld (ww yX1_fallHeld cX1_fallHeld 7 none) ({ frames := 2, cells := 0, slots := 0, locals := 51 }) (Pre0 D k [(ob, .inr (1, [.ref ob_0, .int obv1, .int obv2])), (ob_0, .inl (k 0, 8, .inl obg0)), (tn, .inr (10, [.int tnv0, .int tnv1, .int tnv2, .ref tn_3, .ref tn_4, .ref tn_5, .ref tn_6, .int tnv7, .int tnv8, .ref tn_9, .ref tn_10, .int tnv11, .ref tn_12, .ref tn_13, .ref tn_14, .ref tn_15, .int tnv16, .ref tn_17, .ref tn_18, .ref tnt])), (tn_3, .inl (k 0, 10, .inl tng3)), (tn_4, .inl (k 0, 10, .inl tng4)), (tn_5, .inl (k 0, 10, .inl tng5)), (tn_9, .inl (k 0, 4, .inl tng9)), (tn_10, .inl (k 0, 4, .inl tng10))] sz [.ref ob, .ref tn, .int p1, .int p2, .int p3, .int p4]) (va_Qv (fun (u : Int32 × Int32 × (Nat → Int32)) => match u with | (obv1z, obv2z, obg0z) => (PR 8 1 0 0 1000000 obg0z)) (fun (u : Int32 × Int32 × (Nat → Int32)) tZ => match u with | (obv1z, obv2z, obg0z) => Bw D k (va_A [(ob, .inr (1, [.ref ob_0, .int obv1, .int obv2])), (ob_0, .inl (k 0, 8, .inl obg0)), (tn, .inr (10, [.int tnv0, .int tnv1, .int tnv2, .ref tn_3, .ref tn_4, .ref tn_5, .ref tn_6, .int tnv7, .int tnv8, .ref tn_9, .ref tn_10, .int tnv11, .ref tn_12, .ref tn_13, .ref tn_14, .ref tn_15, .int tnv16, .ref tn_17, .ref tn_18, .ref tnt])), (tn_3, .inl (k 0, 10, .inl tng3)), (tn_4, .inl (k 0, 10, .inl tng4)), (tn_5, .inl (k 0, 10, .inl tng5)), (tn_9, .inl (k 0, 4, .inl tng9)), (tn_10, .inl (k 0, 4, .inl tng10))] sz) [(ob, .inr (1, [.ref ob_0, .int obv1z, .int obv2z])), (ob_0, .inl (k 0, 8, .inl obg0z)), (tn, .inr (10, [.int tnv0, .int tnv1, .int tnv2, .ref tn_3, .ref tn_4, .ref tn_5, .ref tn_6, .int tnv7, .int tnv8, .ref tn_9, .ref tn_10, .int tnv11, .ref tn_12, .ref tn_13, .ref tn_14, .ref tn_15, .int tnv16, .ref tn_17, .ref tn_18, .ref tnt])), (tn_3, .inl (k 0, 10, .inl tng3)), (tn_4, .inl (k 0, 10, .inl tng4)), (tn_5, .inl (k 0, 10, .inl tng5)), (tn_9, .inl (k 0, 4, .inl tng9)), (tn_10, .inl (k 0, 4, .inl tng10))] tZ) (va_A [(ob, .inr (1, [.ref ob_0, .int obv1, .int obv2])), (ob_0, .inl (k 0, 8, .inl obg0)), (tn, .inr (10, [.int tnv0, .int tnv1, .int tnv2, .ref tn_3, .ref tn_4, .ref tn_5, .ref tn_6, .int tnv7, .int tnv8, .ref tn_9, .ref tn_10, .int tnv11, .ref tn_12, .ref tn_13, .ref tn_14, .ref tn_15, .int tnv16, .ref tn_17, .ref tn_18, .ref tnt])), (tn_3, .inl (k 0, 10, .inl tng3)), (tn_4, .inl (k 0, 10, .inl tng4)), (tn_5, .inl (k 0, 10, .inl tng5)), (tn_9, .inl (k 0, 4, .inl tng9)), (tn_10, .inl (k 0, 4, .inl tng10))] sz)) 0 0 (va_A [(ob, .inr (1, [.ref ob_0, .int obv1, .int obv2])), (ob_0, .inl (k 0, 8, .inl obg0)), (tn, .inr (10, [.int tnv0, .int tnv1, .int tnv2, .ref tn_3, .ref tn_4, .ref tn_5, .ref tn_6, .int tnv7, .int tnv8, .ref tn_9, .ref tn_10, .int tnv11, .ref tn_12, .ref tn_13, .ref tn_14, .ref tn_15, .int tnv16, .ref tn_17, .ref tn_18, .ref tnt])), (tn_3, .inl (k 0, 10, .inl tng3)), (tn_4, .inl (k 0, 10, .inl tng4)), (tn_5, .inl (k 0, 10, .inl tng5)), (tn_9, .inl (k 0, 4, .inl tng9)), (tn_10, .inl (k 0, 4, .inl tng10))] sz) := by
  refine Met.ofW (cc := cX1_fallHeld) (maxL := 7) (ret := none) (by decide +kernel) rfl ?_
  intro p e s m args below meth c s₁ B hml hv
  obtain ⟨rfl, hsz, hP, hK, hD0, hN⟩ := hv
  have hx := B.exec
  have hb := B.bytes
  have hr := B.returns
  have hts : ∀ w ∈ TT, w.before _ s = true := fun w h => atoms_spec (ws := ww yX1_fallHeld cX1_fallHeld 7 none) B.pre w (List.mem_cons_of_mem _ h)
  have hown : s.vm.findClass RX1 = some m.cls := findClass_of_methodNamed B.named
  have hlocks := B.notSynchronized
  subst hsz
  have hD := hD0.self (sz := s.heap.size)
  generalize hAe : va_A [(ob, .inr (1, [.ref ob_0, .int obv1, .int obv2])), (ob_0, .inl (k 0, 8, .inl obg0)), (tn, .inr (10, [.int tnv0, .int tnv1, .int tnv2, .ref tn_3, .ref tn_4, .ref tn_5, .ref tn_6, .int tnv7, .int tnv8, .ref tn_9, .ref tn_10, .int tnv11, .ref tn_12, .ref tn_13, .ref tn_14, .ref tn_15, .int tnv16, .ref tn_17, .ref tn_18, .ref tnt])), (tn_3, .inl (k 0, 10, .inl tng3)), (tn_4, .inl (k 0, 10, .inl tng4)), (tn_5, .inl (k 0, 10, .inl tng5)), (tn_9, .inl (k 0, 4, .inl tng9)), (tn_10, .inl (k 0, 4, .inl tng10))] s.heap.size = A at hD ⊢
  have hA : ∀ q : Nat, s.heap.size ≤ q → A q := fun q h => by rw [← hAe]; exact Or.inr h
  have hS : va_S A s.heap s.heap [] := va_S.rf
  have hl := lv_entry ([.ref ob, .ref tn, .int p1, .int p2, .int p3, .int p4]) (n := 7) (Nat.le_of_ble_eq_true rfl)
  rw [lg_entry_eq]
  generalize (lg_sl ([.ref ob, .ref tn, .int p1, .int p2, .int p3, .int p4]) ++ List.replicate (7 - (lg_sl ([.ref ob, .ref tn, .int p1, .int p2, .int p3, .int p4])).length) Slot.unset).toArray = ls at hl ⊢
  have hl : lv_has ls 7 [(0, .ref ob), (1, .ref tn), (2, .int p1), (3, .int p2), (4, .int p3), (5, .int p4)] := hl
  refine lv_aload_n hx hb dX1_fallHeld_0 rfl (lv_at hl 0 rfl) ?_
  refine va_get (D := D) (ci := 1) (v := .ref ob_0) (C := RX1) (T := TX1) (N := 3) hx hb hts iT_X1 hown hK hP 0 rfl rfl 0 (by decide) (hts _ tw_2_17) (fun _ h9 => h9) rfl dX1_fallHeld_1 ?_
  refine lv_ldc (v := 1000000) hx hb hown (hts _ tw_3_191) dX1_fallHeld_4 ?_
  obtain ⟨hPc, hDc, hFc⟩ := sub3 hP hD hS hA (ws' := [(ob_0, .inl (k 0, 8, .inl obg0))]) [1] (by decide +kernel) rfl
  refine va_callv (va_runS (As := [.ref ob_0, .int 1000000]) (rest := []) ⟨hx, hb, hml, hown, hts⟩ (c_J7_fill_53178_0 l D k ob_0 obg0 s.heap.size) (va_cwS 2 hts (gS tw_3_192 tw_3_193 tw_1_19 tw_3_194) rfl rfl rfl hdS_J7_fill_53178 ⟨Nat.le_of_ble_eq_true rfl, Nat.le_of_ble_eq_true rfl⟩) (cz_S hK hPc hDc hN [.ref ob_0, .int 1000000]) rfl rfl hl.1 rfl (lv_room (Nat.le_of_ble_eq_true rfl)) dX1_fallHeld_6 ⟨Nat.le_of_ble_eq_true rfl, Nat.le_of_ble_eq_true rfl⟩) hS (fun q _ h => hFc q h) hFc (fun uZ tZ H1 locs ht hvm hw hB hz1 hk1 hS => ?_)
  obtain ⟨o_2, rfl⟩ : ∃ z, z = uZ := ⟨_, rfl⟩
  obtain ⟨hP1, hK1, hD1⟩ := hB
  rw [ht] at hP1
  obtain ⟨hP, hD⟩ := va_join (wr := [(ob, .inr (1, [.ref ob_0, .int obv1, .int obv2])), (tn, .inr (10, [.int tnv0, .int tnv1, .int tnv2, .ref tn_3, .ref tn_4, .ref tn_5, .ref tn_6, .int tnv7, .int tnv8, .ref tn_9, .ref tn_10, .int tnv11, .ref tn_12, .ref tn_13, .ref tn_14, .ref tn_15, .int tnv16, .ref tn_17, .ref tn_18, .ref tnt])), (tn_3, .inl (k 0, 10, .inl tng3)), (tn_4, .inl (k 0, 10, .inl tng4)), (tn_5, .inl (k 0, 10, .inl tng5)), (tn_9, .inl (k 0, 4, .inl tng9)), (tn_10, .inl (k 0, 4, .inl tng10))]) (w1 := [(ob_0, .inl (k 0, 8, .inl o_2))]) hP hD [1] [0, 2, 3, 4, 5, 6, 7] rfl rfl (by decide +kernel) (by decide +kernel) hk1 hFc hP1 hD1
  clear hK1 hP1 hD1 hPc hDc hFc
  clear hk1 hz1 ht hvm
  have hP : va_P D vwCl [(ob, .inr (1, [.ref ob_0, .int obv1, .int obv2])), (tn, .inr (10, [.int tnv0, .int tnv1, .int tnv2, .ref tn_3, .ref tn_4, .ref tn_5, .ref tn_6, .int tnv7, .int tnv8, .ref tn_9, .ref tn_10, .int tnv11, .ref tn_12, .ref tn_13, .ref tn_14, .ref tn_15, .int tnv16, .ref tn_17, .ref tn_18, .ref tnt])), (tn_3, .inl (k 0, 10, .inl tng3)), (tn_4, .inl (k 0, 10, .inl tng4)), (tn_5, .inl (k 0, 10, .inl tng5)), (tn_9, .inl (k 0, 4, .inl tng9)), (tn_10, .inl (k 0, 4, .inl tng10)), (ob_0, .inl (k 0, 8, .inl o_2))] H1 := hP
  have hD : va_D A [(ob, .inr (1, [.ref ob_0, .int obv1, .int obv2])), (tn, .inr (10, [.int tnv0, .int tnv1, .int tnv2, .ref tn_3, .ref tn_4, .ref tn_5, .ref tn_6, .int tnv7, .int tnv8, .ref tn_9, .ref tn_10, .int tnv11, .ref tn_12, .ref tn_13, .ref tn_14, .ref tn_15, .int tnv16, .ref tn_17, .ref tn_18, .ref tnt])), (tn_3, .inl (k 0, 10, .inl tng3)), (tn_4, .inl (k 0, 10, .inl tng4)), (tn_5, .inl (k 0, 10, .inl tng5)), (tn_9, .inl (k 0, 4, .inl tng9)), (tn_10, .inl (k 0, 4, .inl tng10)), (ob_0, .inl (k 0, 8, .inl o_2))] := hD
  generalize H1 = H at hP hS ⊢
  have hw_3 : (PR 8 1 0 0 1000000 o_2) := hw
  have hw_4 := hw_3
  clear hw
  refine lv_iconst (v := 0) hx hb dX1_fallHeld_9 (by decide) ?_
  refine lv_istore (lv' := [(6, .int 0), (0, .ref ob), (1, .ref tn), (2, .int p1), (3, .int p2), (4, .int p3), (5, .int p4)]) hx hb dX1_fallHeld_10 hl (by decide) rfl (fun ls hl => ?_)
  refine loop_r (Wg := fun H locs ls => W p l e _ s m _ below meth c H locs _ _ _ (F0 m 12 ls [])) (fun n9 H locs ls => ∃ (L12l6 : Int32) (L12a7 : Nat → Int32), n9 = (4 - L12l6.toInt).toNat ∧ (0 ≤ L12l6.toInt ∧ L12l6.toInt ≤ 4) ∧ (PR 8 1 0 0 1000000 L12a7) ∧ va_P D vwCl [(ob, .inr (1, [.ref ob_0, .int obv1, .int obv2])), (tn, .inr (10, [.int tnv0, .int tnv1, .int tnv2, .ref tn_3, .ref tn_4, .ref tn_5, .ref tn_6, .int tnv7, .int tnv8, .ref tn_9, .ref tn_10, .int tnv11, .ref tn_12, .ref tn_13, .ref tn_14, .ref tn_15, .int tnv16, .ref tn_17, .ref tn_18, .ref tnt])), (tn_3, .inl (k 0, 10, .inl tng3)), (tn_4, .inl (k 0, 10, .inl tng4)), (tn_5, .inl (k 0, 10, .inl tng5)), (tn_9, .inl (k 0, 4, .inl tng9)), (tn_10, .inl (k 0, 4, .inl tng10)), (ob_0, .inl (k 0, 8, .inl L12a7))] H ∧ va_D A [(ob, .inr (1, [.ref ob_0, .int obv1, .int obv2])), (tn, .inr (10, [.int tnv0, .int tnv1, .int tnv2, .ref tn_3, .ref tn_4, .ref tn_5, .ref tn_6, .int tnv7, .int tnv8, .ref tn_9, .ref tn_10, .int tnv11, .ref tn_12, .ref tn_13, .ref tn_14, .ref tn_15, .int tnv16, .ref tn_17, .ref tn_18, .ref tnt])), (tn_3, .inl (k 0, 10, .inl tng3)), (tn_4, .inl (k 0, 10, .inl tng4)), (tn_5, .inl (k 0, 10, .inl tng5)), (tn_9, .inl (k 0, 4, .inl tng9)), (tn_10, .inl (k 0, 4, .inl tng10)), (ob_0, .inl (k 0, 8, .inl L12a7))] ∧ va_S A s.heap H locs ∧ lv_has ls 7 [(0, .ref ob), (1, .ref tn), (2, .int p1), (3, .int p2), (4, .int p3), (5, .int p4), (6, .int L12l6)]) (fun n9 H locs ls hI ih_5 => ?_) _ _ _ _ ⟨0, o_2, rfl, (show 0 ≤ 0 ∧ 0 ≤ 4 from by omega), hw_4, hP.sub (ws' := [(ob, .inr (1, [.ref ob_0, .int obv1, .int obv2])), (tn, .inr (10, [.int tnv0, .int tnv1, .int tnv2, .ref tn_3, .ref tn_4, .ref tn_5, .ref tn_6, .int tnv7, .int tnv8, .ref tn_9, .ref tn_10, .int tnv11, .ref tn_12, .ref tn_13, .ref tn_14, .ref tn_15, .int tnv16, .ref tn_17, .ref tn_18, .ref tnt])), (tn_3, .inl (k 0, 10, .inl tng3)), (tn_4, .inl (k 0, 10, .inl tng4)), (tn_5, .inl (k 0, 10, .inl tng5)), (tn_9, .inl (k 0, 4, .inl tng9)), (tn_10, .inl (k 0, 4, .inl tng10)), (ob_0, .inl (k 0, 8, .inl o_2))]) [0, 1, 2, 3, 4, 5, 6, 7] rfl, hD.sub (ws' := [(ob, .inr (1, [.ref ob_0, .int obv1, .int obv2])), (tn, .inr (10, [.int tnv0, .int tnv1, .int tnv2, .ref tn_3, .ref tn_4, .ref tn_5, .ref tn_6, .int tnv7, .int tnv8, .ref tn_9, .ref tn_10, .int tnv11, .ref tn_12, .ref tn_13, .ref tn_14, .ref tn_15, .int tnv16, .ref tn_17, .ref tn_18, .ref tnt])), (tn_3, .inl (k 0, 10, .inl tng3)), (tn_4, .inl (k 0, 10, .inl tng4)), (tn_5, .inl (k 0, 10, .inl tng5)), (tn_9, .inl (k 0, 4, .inl tng9)), (tn_10, .inl (k 0, 4, .inl tng10)), (ob_0, .inl (k 0, 8, .inl o_2))]) [0, 1, 2, 3, 4, 5, 6, 7] (by decide +kernel) rfl, hS, lv_sub hl [1, 2, 3, 4, 5, 6, 0] rfl⟩
  clear hP hD hS hl
  obtain ⟨L12l6, L12a7, en_6, zL12l6, L12a7h0, hP, hD, hS, hl⟩ := hI
  refine lv_iload hx hb dX1_fallHeld_12 (lv_at hl 6 rfl) ?_
  refine lv_aload_n hx hb dX1_fallHeld_14 rfl (lv_at hl 1 rfl) ?_
  refine va_get (D := D) (ci := 10) (v := .int tnv8) (C := RX10) (T := TX10) (N := 20) hx hb hts iT_X10 hown hK hP 1 rfl rfl 8 (by decide) (hts _ tw_1_104) (fun _ h9 => h9) rfl dX1_fallHeld_15 ?_
  refine lv_icmp_ge (tgt := 55) hx hb dX1_fallHeld_18 (by decide) (fun h_7 => ?_) (fun h_7 => ?_)
  · skip
    have zh_7 : tnv8.toInt ≤ L12l6.toInt := z_le h_7
    refine lv_aload_n hx hb dX1_fallHeld_55 rfl (lv_at hl 0 rfl) ?_
    refine lv_aload_n hx hb dX1_fallHeld_56 rfl (lv_at hl 1 rfl) ?_
    refine lv_iload hx hb dX1_fallHeld_57 (lv_at hl 4 rfl) ?_
    refine lv_iload hx hb dX1_fallHeld_59 (lv_at hl 5 rfl) ?_
    obtain ⟨hPc, hDc, hFc⟩ := sub3 hP hD hS hA (ws' := [(ob, .inr (1, [.ref ob_0, .int obv1, .int obv2])), (ob_0, .inl (k 0, 8, .inl L12a7)), (tn, .inr (10, [.int tnv0, .int tnv1, .int tnv2, .ref tn_3, .ref tn_4, .ref tn_5, .ref tn_6, .int tnv7, .int tnv8, .ref tn_9, .ref tn_10, .int tnv11, .ref tn_12, .ref tn_13, .ref tn_14, .ref tn_15, .int tnv16, .ref tn_17, .ref tn_18, .ref tnt])), (tn_3, .inl (k 0, 10, .inl tng3)), (tn_4, .inl (k 0, 10, .inl tng4)), (tn_5, .inl (k 0, 10, .inl tng5))]) [0, 7, 1, 2, 3, 4] (by decide +kernel) rfl
    refine va_callv (va_runV (C := RX1) (As := [.ref tn, .int p3, .int p4]) (rest := []) ⟨hx, hb, hml, hown, hts⟩ (c_X1_flow l D k ob tn p3 p4 ob_0 obv1 obv2 L12a7 tnv0 tnv1 tnv2 tn_3 tn_4 tn_5 tn_6 tnv7 tnv8 tn_9 tn_10 tnv11 tn_12 tn_13 tn_14 tn_15 tnv16 tn_17 tn_18 tnt tng3 tng4 tng5 H.size L12a7h0 (show 0 ≤ tnv0.toInt ∧ tnv0.toInt ≤ 8 from by omega) (show 0 ≤ tnv2.toInt ∧ tnv2.toInt ≤ 10 from by omega) (show 0 ≤ tnv8.toInt ∧ tnv8.toInt ≤ 4 from by omega) (show 0 ≤ tnv11.toInt ∧ tnv11.toInt ≤ 6 from by omega) (show 0 ≤ tnv16.toInt ∧ tnv16.toInt ≤ 2 from by omega) hp_tng3_0 hp_tng4_0 hp_tng5_0) (cwV 3 hts (gV tw_3_199 tw_3_201 tw_p_20 tw_1_6 tw_3_202) rfl rfl rfl hdV_X1_flow ⟨Nat.le_of_ble_eq_true rfl, Nat.le_of_ble_eq_true rfl⟩) (cz_V hK hPc hDc hN (ci := 1) (q0 := 0) rfl rfl [.ref tn, .int p3, .int p4]) rfl rfl hl.1 rfl (lv_room (Nat.le_of_ble_eq_true rfl)) dX1_fallHeld_61 ⟨Nat.le_of_ble_eq_true rfl, Nat.le_of_ble_eq_true rfl⟩) hS (fun q _ h => hFc q h) hFc (fun uZ tZ H1 locs ht hvm hw hB hz1 hk1 hS => ?_)
    obtain ⟨o_9, o_10, o_11⟩ := uZ
    obtain ⟨hP1, hK1, hD1⟩ := hB
    rw [ht] at hP1
    obtain ⟨hP, hD⟩ := va_join (wr := [(tn_9, .inl (k 0, 4, .inl tng9)), (tn_10, .inl (k 0, 4, .inl tng10))]) (w1 := [(ob, .inr (1, [.ref ob_0, .int o_9, .int o_10])), (ob_0, .inl (k 0, 8, .inl o_11)), (tn, .inr (10, [.int tnv0, .int tnv1, .int tnv2, .ref tn_3, .ref tn_4, .ref tn_5, .ref tn_6, .int tnv7, .int tnv8, .ref tn_9, .ref tn_10, .int tnv11, .ref tn_12, .ref tn_13, .ref tn_14, .ref tn_15, .int tnv16, .ref tn_17, .ref tn_18, .ref tnt])), (tn_3, .inl (k 0, 10, .inl tng3)), (tn_4, .inl (k 0, 10, .inl tng4)), (tn_5, .inl (k 0, 10, .inl tng5))]) hP hD [0, 7, 1, 2, 3, 4] [5, 6] rfl rfl (by decide +kernel) (by decide +kernel) hk1 hFc hP1 hD1
    clear hK1 hP1 hD1 hPc hDc hFc
    clear hk1 hz1 ht hvm
    have hP : va_P D vwCl [(tn_9, .inl (k 0, 4, .inl tng9)), (tn_10, .inl (k 0, 4, .inl tng10)), (ob, .inr (1, [.ref ob_0, .int o_9, .int o_10])), (ob_0, .inl (k 0, 8, .inl o_11)), (tn, .inr (10, [.int tnv0, .int tnv1, .int tnv2, .ref tn_3, .ref tn_4, .ref tn_5, .ref tn_6, .int tnv7, .int tnv8, .ref tn_9, .ref tn_10, .int tnv11, .ref tn_12, .ref tn_13, .ref tn_14, .ref tn_15, .int tnv16, .ref tn_17, .ref tn_18, .ref tnt])), (tn_3, .inl (k 0, 10, .inl tng3)), (tn_4, .inl (k 0, 10, .inl tng4)), (tn_5, .inl (k 0, 10, .inl tng5))] H1 := hP
    have hD : va_D A [(tn_9, .inl (k 0, 4, .inl tng9)), (tn_10, .inl (k 0, 4, .inl tng10)), (ob, .inr (1, [.ref ob_0, .int o_9, .int o_10])), (ob_0, .inl (k 0, 8, .inl o_11)), (tn, .inr (10, [.int tnv0, .int tnv1, .int tnv2, .ref tn_3, .ref tn_4, .ref tn_5, .ref tn_6, .int tnv7, .int tnv8, .ref tn_9, .ref tn_10, .int tnv11, .ref tn_12, .ref tn_13, .ref tn_14, .ref tn_15, .int tnv16, .ref tn_17, .ref tn_18, .ref tnt])), (tn_3, .inl (k 0, 10, .inl tng3)), (tn_4, .inl (k 0, 10, .inl tng4)), (tn_5, .inl (k 0, 10, .inl tng5))] := hD
    generalize H1 = H at hP hS ⊢
    have hw_12 : (PR 8 1 0 0 1000000 o_11) := hw
    have hw_13 := hw_12
    clear hw
    obtain ⟨hP9, hD9⟩ := sub2 hP hD (ws' := [(ob, .inr (1, [.ref ob_0, .int o_9, .int o_10])), (ob_0, .inl (k 0, 8, .inl o_11)), (tn, .inr (10, [.int tnv0, .int tnv1, .int tnv2, .ref tn_3, .ref tn_4, .ref tn_5, .ref tn_6, .int tnv7, .int tnv8, .ref tn_9, .ref tn_10, .int tnv11, .ref tn_12, .ref tn_13, .ref tn_14, .ref tn_15, .int tnv16, .ref tn_17, .ref tn_18, .ref tnt])), (tn_3, .inl (k 0, 10, .inl tng3)), (tn_4, .inl (k 0, 10, .inl tng4)), (tn_5, .inl (k 0, 10, .inl tng5)), (tn_9, .inl (k 0, 4, .inl tng9)), (tn_10, .inl (k 0, 4, .inl tng10))]) [2, 3, 4, 5, 6, 7, 0, 1] (by decide +kernel) rfl
    exact W.vret hx hb hr (fun tZ ht hW => ⟨⟨(o_9, o_10, o_11), rfl, hw_13, by rw [ht]; exact hP9, va_K.moved hW.alike hK, hD9⟩, hS.F ht⟩) hS.2.2 dX1_fallHeld_64
  · skip
    have zh_7 : L12l6.toInt < tnv8.toInt := z_nle h_7
    refine lv_aload_n hx hb dX1_fallHeld_21 rfl (lv_at hl 0 rfl) ?_
    refine lv_aload_n hx hb dX1_fallHeld_22 rfl (lv_at hl 1 rfl) ?_
    refine va_get (D := D) (ci := 10) (v := .ref tn_9) (C := RX10) (T := TX10) (N := 20) hx hb hts iT_X10 hown hK hP 1 rfl rfl 9 (by decide) (hts _ tw_1_111) (fun _ h9 => h9) rfl dX1_fallHeld_23 ?_
    refine lv_iload hx hb dX1_fallHeld_26 (lv_at hl 6 rfl) ?_
    refine va_iald hx hb hK hP 5 0 rfl rfl (z_in (by omega) (by omega)) dX1_fallHeld_28 ?_
    refine lv_topi (fun x_14 ex_14 => ?_)
    have zx_14r0 : 0 ≤ x_14.toInt ∧ x_14.toInt ≤ 7 := by rw [ex_14]; exact PR.ld hp_tng9_0 (by omega) (by omega) (by omega)
    refine lv_iload hx hb dX1_fallHeld_29 (lv_at hl 6 rfl) ?_
    refine lv_iload_n hx hb dX1_fallHeld_31 rfl (lv_at hl 2 rfl) ?_
    refine lv_icmp_ne (tgt := 39) hx hb dX1_fallHeld_32 (by decide) (fun h_15 => ?_) (fun h_15 => ?_)
    · skip
      have zh_15 : ¬ L12l6.toInt = p1.toInt := z_ne h_15
      refine lv_aload_n hx hb dX1_fallHeld_39 rfl (lv_at hl 1 rfl) ?_
      refine va_get (D := D) (ci := 10) (v := .ref tn_10) (C := RX10) (T := TX10) (N := 20) hx hb hts iT_X10 hown hK hP 1 rfl rfl 10 (by decide) (hts _ tw_1_115) (fun _ h9 => h9) rfl dX1_fallHeld_40 ?_
      refine lv_iload hx hb dX1_fallHeld_43 (lv_at hl 6 rfl) ?_
      refine va_iald hx hb hK hP 6 0 rfl rfl (z_in (by omega) (by omega)) dX1_fallHeld_45 ?_
      refine lv_topi (fun x_16 ex_16 => ?_)
      have zx_16r0 : 0 ≤ x_16.toInt ∧ x_16.toInt ≤ 99 := by rw [ex_16]; exact PR.ld hp_tng10_0 (by omega) (by omega) (by omega)
      obtain ⟨hPc, hDc, hFc⟩ := sub3 hP hD hS hA (ws' := [(ob, .inr (1, [.ref ob_0, .int obv1, .int obv2])), (ob_0, .inl (k 0, 8, .inl L12a7))]) [0, 7] (by decide +kernel) rfl
      refine va_callv (va_runV (C := RX1) (As := [.int x_14, .int x_16]) (rest := []) ⟨hx, hb, hml, hown, hts⟩ (c_X1_enter l D k ob x_14 x_16 ob_0 obv1 obv2 L12a7 H.size (show 0 ≤ x_16.toInt ∧ x_16.toInt ≤ 1000000 from by omega) L12a7h0) (cwV 2 hts (gV tw_3_195 tw_3_197 tw_p_19 tw_1_6 tw_3_198) rfl rfl rfl hdV_X1_enter ⟨Nat.le_of_ble_eq_true rfl, Nat.le_of_ble_eq_true rfl⟩) (cz_V hK hPc hDc hN (ci := 1) (q0 := 0) rfl rfl [.int x_14, .int x_16]) rfl rfl hl.1 rfl (lv_room (Nat.le_of_ble_eq_true rfl)) dX1_fallHeld_46 ⟨Nat.le_of_ble_eq_true rfl, Nat.le_of_ble_eq_true rfl⟩) hS (fun q _ h => hFc q h) hFc (fun uZ tZ H1 locs ht hvm hw hB hz1 hk1 hS => ?_)
      obtain ⟨o_18, rfl⟩ : ∃ z, z = uZ := ⟨_, rfl⟩
      obtain ⟨hP1, hK1, hD1⟩ := hB
      rw [ht] at hP1
      obtain ⟨hP, hD⟩ := va_join (wr := [(tn, .inr (10, [.int tnv0, .int tnv1, .int tnv2, .ref tn_3, .ref tn_4, .ref tn_5, .ref tn_6, .int tnv7, .int tnv8, .ref tn_9, .ref tn_10, .int tnv11, .ref tn_12, .ref tn_13, .ref tn_14, .ref tn_15, .int tnv16, .ref tn_17, .ref tn_18, .ref tnt])), (tn_3, .inl (k 0, 10, .inl tng3)), (tn_4, .inl (k 0, 10, .inl tng4)), (tn_5, .inl (k 0, 10, .inl tng5)), (tn_9, .inl (k 0, 4, .inl tng9)), (tn_10, .inl (k 0, 4, .inl tng10))]) (w1 := [(ob, .inr (1, [.ref ob_0, .int obv1, .int obv2])), (ob_0, .inl (k 0, 8, .inl o_18))]) hP hD [0, 7] [1, 2, 3, 4, 5, 6] rfl rfl (by decide +kernel) (by decide +kernel) hk1 hFc hP1 hD1
      clear hK1 hP1 hD1 hPc hDc hFc
      clear hk1 hz1 ht hvm
      have hP : va_P D vwCl [(tn, .inr (10, [.int tnv0, .int tnv1, .int tnv2, .ref tn_3, .ref tn_4, .ref tn_5, .ref tn_6, .int tnv7, .int tnv8, .ref tn_9, .ref tn_10, .int tnv11, .ref tn_12, .ref tn_13, .ref tn_14, .ref tn_15, .int tnv16, .ref tn_17, .ref tn_18, .ref tnt])), (tn_3, .inl (k 0, 10, .inl tng3)), (tn_4, .inl (k 0, 10, .inl tng4)), (tn_5, .inl (k 0, 10, .inl tng5)), (tn_9, .inl (k 0, 4, .inl tng9)), (tn_10, .inl (k 0, 4, .inl tng10)), (ob, .inr (1, [.ref ob_0, .int obv1, .int obv2])), (ob_0, .inl (k 0, 8, .inl o_18))] H1 := hP
      have hD : va_D A [(tn, .inr (10, [.int tnv0, .int tnv1, .int tnv2, .ref tn_3, .ref tn_4, .ref tn_5, .ref tn_6, .int tnv7, .int tnv8, .ref tn_9, .ref tn_10, .int tnv11, .ref tn_12, .ref tn_13, .ref tn_14, .ref tn_15, .int tnv16, .ref tn_17, .ref tn_18, .ref tnt])), (tn_3, .inl (k 0, 10, .inl tng3)), (tn_4, .inl (k 0, 10, .inl tng4)), (tn_5, .inl (k 0, 10, .inl tng5)), (tn_9, .inl (k 0, 4, .inl tng9)), (tn_10, .inl (k 0, 4, .inl tng10)), (ob, .inr (1, [.ref ob_0, .int obv1, .int obv2])), (ob_0, .inl (k 0, 8, .inl o_18))] := hD
      generalize H1 = H at hP hS ⊢
      have hw_19 : (PR 8 1 0 0 1000000 o_18) := hw
      have hw_20 := hw_19
      clear hw
      obtain ⟨x_21, ex_21⟩ : ∃ y : Int32, y = L12l6 + 1 := ⟨_, rfl⟩
      have zx_21 : x_21.toInt = L12l6.toInt + 1 := by rw [ex_21]; exact z_add rfl rfl (by omega) (by omega)
      refine lv_iinc (v := x_21) (lv' := [(6, .int x_21), (0, .ref ob), (1, .ref tn), (2, .int p1), (3, .int p2), (4, .int p3), (5, .int p4)]) hx hb dX1_fallHeld_49 hl (k := 6) rfl (by rw [ex_21]; rfl) (by decide) rfl (fun ls hl => ?_)
      refine lv_goto (tgt := 12) hx hb dX1_fallHeld_52 (by decide) ?_
      exact ih_5 _ _ _ _ (by omega) ⟨x_21, o_18, rfl, (show 0 ≤ x_21.toInt ∧ x_21.toInt ≤ 4 from by omega), hw_20, hP.sub (ws' := [(ob, .inr (1, [.ref ob_0, .int obv1, .int obv2])), (tn, .inr (10, [.int tnv0, .int tnv1, .int tnv2, .ref tn_3, .ref tn_4, .ref tn_5, .ref tn_6, .int tnv7, .int tnv8, .ref tn_9, .ref tn_10, .int tnv11, .ref tn_12, .ref tn_13, .ref tn_14, .ref tn_15, .int tnv16, .ref tn_17, .ref tn_18, .ref tnt])), (tn_3, .inl (k 0, 10, .inl tng3)), (tn_4, .inl (k 0, 10, .inl tng4)), (tn_5, .inl (k 0, 10, .inl tng5)), (tn_9, .inl (k 0, 4, .inl tng9)), (tn_10, .inl (k 0, 4, .inl tng10)), (ob_0, .inl (k 0, 8, .inl o_18))]) [6, 0, 1, 2, 3, 4, 5, 7] rfl, hD.sub (ws' := [(ob, .inr (1, [.ref ob_0, .int obv1, .int obv2])), (tn, .inr (10, [.int tnv0, .int tnv1, .int tnv2, .ref tn_3, .ref tn_4, .ref tn_5, .ref tn_6, .int tnv7, .int tnv8, .ref tn_9, .ref tn_10, .int tnv11, .ref tn_12, .ref tn_13, .ref tn_14, .ref tn_15, .int tnv16, .ref tn_17, .ref tn_18, .ref tnt])), (tn_3, .inl (k 0, 10, .inl tng3)), (tn_4, .inl (k 0, 10, .inl tng4)), (tn_5, .inl (k 0, 10, .inl tng5)), (tn_9, .inl (k 0, 4, .inl tng9)), (tn_10, .inl (k 0, 4, .inl tng10)), (ob_0, .inl (k 0, 8, .inl o_18))]) [6, 0, 1, 2, 3, 4, 5, 7] (by decide +kernel) rfl, hS, lv_sub hl [1, 2, 3, 4, 5, 6, 0] rfl⟩
    · skip
      have zh_15 : L12l6.toInt = p1.toInt := z_eq h_15
      refine lv_iload_n hx hb dX1_fallHeld_35 rfl (lv_at hl 3 rfl) ?_
      refine lv_goto (tgt := 46) hx hb dX1_fallHeld_36 (by decide) ?_
      obtain ⟨hPc, hDc, hFc⟩ := sub3 hP hD hS hA (ws' := [(ob, .inr (1, [.ref ob_0, .int obv1, .int obv2])), (ob_0, .inl (k 0, 8, .inl L12a7))]) [0, 7] (by decide +kernel) rfl
      refine va_callv (va_runV (C := RX1) (As := [.int x_14, .int p2]) (rest := []) ⟨hx, hb, hml, hown, hts⟩ (c_X1_enter l D k ob x_14 p2 ob_0 obv1 obv2 L12a7 H.size (show 0 ≤ p2.toInt ∧ p2.toInt ≤ 1000000 from by omega) L12a7h0) (cwV 2 hts (gV tw_3_195 tw_3_197 tw_p_19 tw_1_6 tw_3_198) rfl rfl rfl hdV_X1_enter ⟨Nat.le_of_ble_eq_true rfl, Nat.le_of_ble_eq_true rfl⟩) (cz_V hK hPc hDc hN (ci := 1) (q0 := 0) rfl rfl [.int x_14, .int p2]) rfl rfl hl.1 rfl (lv_room (Nat.le_of_ble_eq_true rfl)) dX1_fallHeld_46 ⟨Nat.le_of_ble_eq_true rfl, Nat.le_of_ble_eq_true rfl⟩) hS (fun q _ h => hFc q h) hFc (fun uZ tZ H1 locs ht hvm hw hB hz1 hk1 hS => ?_)
      obtain ⟨o_23, rfl⟩ : ∃ z, z = uZ := ⟨_, rfl⟩
      obtain ⟨hP1, hK1, hD1⟩ := hB
      rw [ht] at hP1
      obtain ⟨hP, hD⟩ := va_join (wr := [(tn, .inr (10, [.int tnv0, .int tnv1, .int tnv2, .ref tn_3, .ref tn_4, .ref tn_5, .ref tn_6, .int tnv7, .int tnv8, .ref tn_9, .ref tn_10, .int tnv11, .ref tn_12, .ref tn_13, .ref tn_14, .ref tn_15, .int tnv16, .ref tn_17, .ref tn_18, .ref tnt])), (tn_3, .inl (k 0, 10, .inl tng3)), (tn_4, .inl (k 0, 10, .inl tng4)), (tn_5, .inl (k 0, 10, .inl tng5)), (tn_9, .inl (k 0, 4, .inl tng9)), (tn_10, .inl (k 0, 4, .inl tng10))]) (w1 := [(ob, .inr (1, [.ref ob_0, .int obv1, .int obv2])), (ob_0, .inl (k 0, 8, .inl o_23))]) hP hD [0, 7] [1, 2, 3, 4, 5, 6] rfl rfl (by decide +kernel) (by decide +kernel) hk1 hFc hP1 hD1
      clear hK1 hP1 hD1 hPc hDc hFc
      clear hk1 hz1 ht hvm
      have hP : va_P D vwCl [(tn, .inr (10, [.int tnv0, .int tnv1, .int tnv2, .ref tn_3, .ref tn_4, .ref tn_5, .ref tn_6, .int tnv7, .int tnv8, .ref tn_9, .ref tn_10, .int tnv11, .ref tn_12, .ref tn_13, .ref tn_14, .ref tn_15, .int tnv16, .ref tn_17, .ref tn_18, .ref tnt])), (tn_3, .inl (k 0, 10, .inl tng3)), (tn_4, .inl (k 0, 10, .inl tng4)), (tn_5, .inl (k 0, 10, .inl tng5)), (tn_9, .inl (k 0, 4, .inl tng9)), (tn_10, .inl (k 0, 4, .inl tng10)), (ob, .inr (1, [.ref ob_0, .int obv1, .int obv2])), (ob_0, .inl (k 0, 8, .inl o_23))] H1 := hP
      have hD : va_D A [(tn, .inr (10, [.int tnv0, .int tnv1, .int tnv2, .ref tn_3, .ref tn_4, .ref tn_5, .ref tn_6, .int tnv7, .int tnv8, .ref tn_9, .ref tn_10, .int tnv11, .ref tn_12, .ref tn_13, .ref tn_14, .ref tn_15, .int tnv16, .ref tn_17, .ref tn_18, .ref tnt])), (tn_3, .inl (k 0, 10, .inl tng3)), (tn_4, .inl (k 0, 10, .inl tng4)), (tn_5, .inl (k 0, 10, .inl tng5)), (tn_9, .inl (k 0, 4, .inl tng9)), (tn_10, .inl (k 0, 4, .inl tng10)), (ob, .inr (1, [.ref ob_0, .int obv1, .int obv2])), (ob_0, .inl (k 0, 8, .inl o_23))] := hD
      generalize H1 = H at hP hS ⊢
      have hw_24 : (PR 8 1 0 0 1000000 o_23) := hw
      have hw_25 := hw_24
      clear hw
      obtain ⟨x_26, ex_26⟩ : ∃ y : Int32, y = L12l6 + 1 := ⟨_, rfl⟩
      have zx_26 : x_26.toInt = L12l6.toInt + 1 := by rw [ex_26]; exact z_add rfl rfl (by omega) (by omega)
      refine lv_iinc (v := x_26) (lv' := [(6, .int x_26), (0, .ref ob), (1, .ref tn), (2, .int p1), (3, .int p2), (4, .int p3), (5, .int p4)]) hx hb dX1_fallHeld_49 hl (k := 6) rfl (by rw [ex_26]; rfl) (by decide) rfl (fun ls hl => ?_)
      refine lv_goto (tgt := 12) hx hb dX1_fallHeld_52 (by decide) ?_
      exact ih_5 _ _ _ _ (by omega) ⟨x_26, o_23, rfl, (show 0 ≤ x_26.toInt ∧ x_26.toInt ≤ 4 from by omega), hw_25, hP.sub (ws' := [(ob, .inr (1, [.ref ob_0, .int obv1, .int obv2])), (tn, .inr (10, [.int tnv0, .int tnv1, .int tnv2, .ref tn_3, .ref tn_4, .ref tn_5, .ref tn_6, .int tnv7, .int tnv8, .ref tn_9, .ref tn_10, .int tnv11, .ref tn_12, .ref tn_13, .ref tn_14, .ref tn_15, .int tnv16, .ref tn_17, .ref tn_18, .ref tnt])), (tn_3, .inl (k 0, 10, .inl tng3)), (tn_4, .inl (k 0, 10, .inl tng4)), (tn_5, .inl (k 0, 10, .inl tng5)), (tn_9, .inl (k 0, 4, .inl tng9)), (tn_10, .inl (k 0, 4, .inl tng10)), (ob_0, .inl (k 0, 8, .inl o_23))]) [6, 0, 1, 2, 3, 4, 5, 7] rfl, hD.sub (ws' := [(ob, .inr (1, [.ref ob_0, .int obv1, .int obv2])), (tn, .inr (10, [.int tnv0, .int tnv1, .int tnv2, .ref tn_3, .ref tn_4, .ref tn_5, .ref tn_6, .int tnv7, .int tnv8, .ref tn_9, .ref tn_10, .int tnv11, .ref tn_12, .ref tn_13, .ref tn_14, .ref tn_15, .int tnv16, .ref tn_17, .ref tn_18, .ref tnt])), (tn_3, .inl (k 0, 10, .inl tng3)), (tn_4, .inl (k 0, 10, .inl tng4)), (tn_5, .inl (k 0, 10, .inl tng5)), (tn_9, .inl (k 0, 4, .inl tng9)), (tn_10, .inl (k 0, 4, .inl tng10)), (ob_0, .inl (k 0, 8, .inl o_23))]) [6, 0, 1, 2, 3, 4, 5, 7] (by decide +kernel) rfl, hS, lv_sub hl [1, 2, 3, 4, 5, 6, 0] rfl⟩
set_option maxHeartbeats 4000000 in
set_option maxRecDepth 100000 in
theorem c_X1_fall (l : Launch) (D : va_G) (k : Nat → ClassId) (ob : Nat) (tn : Nat) (p1 : Int32) (p2 : Int32) (ob_0 : Nat) (obv1 : Int32) (obv2 : Int32) (obg0 : Nat → Int32) (tnv0 : Int32) (tnv1 : Int32) (tnv2 : Int32) (tn_3 : Nat) (tn_4 : Nat) (tn_5 : Nat) (tn_6 : Nat) (tnv7 : Int32) (tnv8 : Int32) (tn_9 : Nat) (tn_10 : Nat) (tnv11 : Int32) (tn_12 : Nat) (tn_13 : Nat) (tn_14 : Nat) (tn_15 : Nat) (tnv16 : Int32) (tn_17 : Nat) (tn_18 : Nat) (tnt : Nat) (tng3 : Nat → Int32) (tng4 : Nat → Int32) (tng5 : Nat → Int32) (tng9 : Nat → Int32) (tng10 : Nat → Int32) (sz : Nat) (hp_obg0_0 : PR 8 1 0 0 1000000 obg0) (h_tnv0 : 0 ≤ tnv0.toInt ∧ tnv0.toInt ≤ 8) (h_tnv2 : 0 ≤ tnv2.toInt ∧ tnv2.toInt ≤ 10) (h_tnv8 : 0 ≤ tnv8.toInt ∧ tnv8.toInt ≤ 4) (h_tnv11 : 0 ≤ tnv11.toInt ∧ tnv11.toInt ≤ 6) (h_tnv16 : 0 ≤ tnv16.toInt ∧ tnv16.toInt ≤ 2) (hp_tng3_0 : PR 10 1 0 0 7 tng3) (hp_tng4_0 : PR 10 1 0 0 7 tng4) (hp_tng5_0 : PR 10 1 0 0 60 tng5) (hp_tng9_0 : PR 4 1 0 0 7 tng9) (hp_tng10_0 : PR 4 1 0 0 99 tng10) : Met l yX1_fall (ww yX1_fall cX1_fall 4 none) ({ frames := 3, cells := 0, slots := 0, locals := 77 }) (Pre0 D k [(ob, .inr (1, [.ref ob_0, .int obv1, .int obv2])), (ob_0, .inl (k 0, 8, .inl obg0)), (tn, .inr (10, [.int tnv0, .int tnv1, .int tnv2, .ref tn_3, .ref tn_4, .ref tn_5, .ref tn_6, .int tnv7, .int tnv8, .ref tn_9, .ref tn_10, .int tnv11, .ref tn_12, .ref tn_13, .ref tn_14, .ref tn_15, .int tnv16, .ref tn_17, .ref tn_18, .ref tnt])), (tn_3, .inl (k 0, 10, .inl tng3)), (tn_4, .inl (k 0, 10, .inl tng4)), (tn_5, .inl (k 0, 10, .inl tng5)), (tn_9, .inl (k 0, 4, .inl tng9)), (tn_10, .inl (k 0, 4, .inl tng10))] sz [.ref ob, .ref tn, .int p1, .int p2]) (va_Qv (fun (u : Int32 × Int32 × (Nat → Int32)) => match u with | (obv1z, obv2z, obg0z) => (PR 8 1 0 0 1000000 obg0z)) (fun (u : Int32 × Int32 × (Nat → Int32)) tZ => match u with | (obv1z, obv2z, obg0z) => Bw D k (va_A [(ob, .inr (1, [.ref ob_0, .int obv1, .int obv2])), (ob_0, .inl (k 0, 8, .inl obg0)), (tn, .inr (10, [.int tnv0, .int tnv1, .int tnv2, .ref tn_3, .ref tn_4, .ref tn_5, .ref tn_6, .int tnv7, .int tnv8, .ref tn_9, .ref tn_10, .int tnv11, .ref tn_12, .ref tn_13, .ref tn_14, .ref tn_15, .int tnv16, .ref tn_17, .ref tn_18, .ref tnt])), (tn_3, .inl (k 0, 10, .inl tng3)), (tn_4, .inl (k 0, 10, .inl tng4)), (tn_5, .inl (k 0, 10, .inl tng5)), (tn_9, .inl (k 0, 4, .inl tng9)), (tn_10, .inl (k 0, 4, .inl tng10))] sz) [(ob, .inr (1, [.ref ob_0, .int obv1z, .int obv2z])), (ob_0, .inl (k 0, 8, .inl obg0z)), (tn, .inr (10, [.int tnv0, .int tnv1, .int tnv2, .ref tn_3, .ref tn_4, .ref tn_5, .ref tn_6, .int tnv7, .int tnv8, .ref tn_9, .ref tn_10, .int tnv11, .ref tn_12, .ref tn_13, .ref tn_14, .ref tn_15, .int tnv16, .ref tn_17, .ref tn_18, .ref tnt])), (tn_3, .inl (k 0, 10, .inl tng3)), (tn_4, .inl (k 0, 10, .inl tng4)), (tn_5, .inl (k 0, 10, .inl tng5)), (tn_9, .inl (k 0, 4, .inl tng9)), (tn_10, .inl (k 0, 4, .inl tng10))] tZ) (va_A [(ob, .inr (1, [.ref ob_0, .int obv1, .int obv2])), (ob_0, .inl (k 0, 8, .inl obg0)), (tn, .inr (10, [.int tnv0, .int tnv1, .int tnv2, .ref tn_3, .ref tn_4, .ref tn_5, .ref tn_6, .int tnv7, .int tnv8, .ref tn_9, .ref tn_10, .int tnv11, .ref tn_12, .ref tn_13, .ref tn_14, .ref tn_15, .int tnv16, .ref tn_17, .ref tn_18, .ref tnt])), (tn_3, .inl (k 0, 10, .inl tng3)), (tn_4, .inl (k 0, 10, .inl tng4)), (tn_5, .inl (k 0, 10, .inl tng5)), (tn_9, .inl (k 0, 4, .inl tng9)), (tn_10, .inl (k 0, 4, .inl tng10))] sz)) 0 0 (va_A [(ob, .inr (1, [.ref ob_0, .int obv1, .int obv2])), (ob_0, .inl (k 0, 8, .inl obg0)), (tn, .inr (10, [.int tnv0, .int tnv1, .int tnv2, .ref tn_3, .ref tn_4, .ref tn_5, .ref tn_6, .int tnv7, .int tnv8, .ref tn_9, .ref tn_10, .int tnv11, .ref tn_12, .ref tn_13, .ref tn_14, .ref tn_15, .int tnv16, .ref tn_17, .ref tn_18, .ref tnt])), (tn_3, .inl (k 0, 10, .inl tng3)), (tn_4, .inl (k 0, 10, .inl tng4)), (tn_5, .inl (k 0, 10, .inl tng5)), (tn_9, .inl (k 0, 4, .inl tng9)), (tn_10, .inl (k 0, 4, .inl tng10))] sz) := by
  refine Met.ofW (cc := cX1_fall) (maxL := 4) (ret := none) (by decide +kernel) rfl ?_
  intro p e s m args below meth c s₁ B hml hv
  obtain ⟨rfl, hsz, hP, hK, hD0, hN⟩ := hv
  have hx := B.exec
  have hb := B.bytes
  have hr := B.returns
  have hts : ∀ w ∈ TT, w.before _ s = true := fun w h => atoms_spec (ws := ww yX1_fall cX1_fall 4 none) B.pre w (List.mem_cons_of_mem _ h)
  have hown : s.vm.findClass RX1 = some m.cls := findClass_of_methodNamed B.named
  have hlocks := B.notSynchronized
  subst hsz
  have hD := hD0.self (sz := s.heap.size)
  generalize hAe : va_A [(ob, .inr (1, [.ref ob_0, .int obv1, .int obv2])), (ob_0, .inl (k 0, 8, .inl obg0)), (tn, .inr (10, [.int tnv0, .int tnv1, .int tnv2, .ref tn_3, .ref tn_4, .ref tn_5, .ref tn_6, .int tnv7, .int tnv8, .ref tn_9, .ref tn_10, .int tnv11, .ref tn_12, .ref tn_13, .ref tn_14, .ref tn_15, .int tnv16, .ref tn_17, .ref tn_18, .ref tnt])), (tn_3, .inl (k 0, 10, .inl tng3)), (tn_4, .inl (k 0, 10, .inl tng4)), (tn_5, .inl (k 0, 10, .inl tng5)), (tn_9, .inl (k 0, 4, .inl tng9)), (tn_10, .inl (k 0, 4, .inl tng10))] s.heap.size = A at hD ⊢
  have hA : ∀ q : Nat, s.heap.size ≤ q → A q := fun q h => by rw [← hAe]; exact Or.inr h
  have hS : va_S A s.heap s.heap [] := va_S.rf
  have hl := lv_entry ([.ref ob, .ref tn, .int p1, .int p2]) (n := 4) (Nat.le_of_ble_eq_true rfl)
  rw [lg_entry_eq]
  generalize (lg_sl ([.ref ob, .ref tn, .int p1, .int p2]) ++ List.replicate (4 - (lg_sl ([.ref ob, .ref tn, .int p1, .int p2])).length) Slot.unset).toArray = ls at hl ⊢
  have hl : lv_has ls 4 [(0, .ref ob), (1, .ref tn), (2, .int p1), (3, .int p2)] := hl
  refine lv_aload_n hx hb dX1_fall_0 rfl (lv_at hl 0 rfl) ?_
  refine lv_aload_n hx hb dX1_fall_1 rfl (lv_at hl 1 rfl) ?_
  refine lv_iconst (v := (-1)) hx hb dX1_fall_2 (by decide) ?_
  refine lv_iconst (v := 0) hx hb dX1_fall_3 (by decide) ?_
  refine lv_iload_n hx hb dX1_fall_4 rfl (lv_at hl 2 rfl) ?_
  refine lv_iload_n hx hb dX1_fall_5 rfl (lv_at hl 3 rfl) ?_
  obtain ⟨hPc, hDc, hFc⟩ := sub3 hP hD hS hA (ws' := [(ob, .inr (1, [.ref ob_0, .int obv1, .int obv2])), (ob_0, .inl (k 0, 8, .inl obg0)), (tn, .inr (10, [.int tnv0, .int tnv1, .int tnv2, .ref tn_3, .ref tn_4, .ref tn_5, .ref tn_6, .int tnv7, .int tnv8, .ref tn_9, .ref tn_10, .int tnv11, .ref tn_12, .ref tn_13, .ref tn_14, .ref tn_15, .int tnv16, .ref tn_17, .ref tn_18, .ref tnt])), (tn_3, .inl (k 0, 10, .inl tng3)), (tn_4, .inl (k 0, 10, .inl tng4)), (tn_5, .inl (k 0, 10, .inl tng5)), (tn_9, .inl (k 0, 4, .inl tng9)), (tn_10, .inl (k 0, 4, .inl tng10))]) [0, 1, 2, 3, 4, 5, 6, 7] (by decide +kernel) rfl
  refine va_callv (va_runV (C := RX1) (As := [.ref tn, .int (-1), .int 0, .int p1, .int p2]) (rest := []) ⟨hx, hb, hml, hown, hts⟩ (c_X1_fallHeld l D k ob tn (-1) 0 p1 p2 ob_0 obv1 obv2 obg0 tnv0 tnv1 tnv2 tn_3 tn_4 tn_5 tn_6 tnv7 tnv8 tn_9 tn_10 tnv11 tn_12 tn_13 tn_14 tn_15 tnv16 tn_17 tn_18 tnt tng3 tng4 tng5 tng9 tng10 s.heap.size (show 0 ≤ 0 ∧ 0 ≤ 1000000 from by omega) hp_obg0_0 (show 0 ≤ tnv0.toInt ∧ tnv0.toInt ≤ 8 from by omega) (show 0 ≤ tnv2.toInt ∧ tnv2.toInt ≤ 10 from by omega) (show 0 ≤ tnv8.toInt ∧ tnv8.toInt ≤ 4 from by omega) (show 0 ≤ tnv11.toInt ∧ tnv11.toInt ≤ 6 from by omega) (show 0 ≤ tnv16.toInt ∧ tnv16.toInt ≤ 2 from by omega) hp_tng3_0 hp_tng4_0 hp_tng5_0 hp_tng9_0 hp_tng10_0) (cwV 5 hts (gV tw_3_187 tw_3_188 tw_3_189 tw_1_6 tw_3_190) rfl rfl rfl hdV_X1_fallHeld ⟨Nat.le_of_ble_eq_true rfl, Nat.le_of_ble_eq_true rfl⟩) (cz_V hK hPc hDc hN (ci := 1) (q0 := 0) rfl rfl [.ref tn, .int (-1), .int 0, .int p1, .int p2]) rfl rfl hl.1 rfl (lv_room (Nat.le_of_ble_eq_true rfl)) dX1_fall_6 ⟨Nat.le_of_ble_eq_true rfl, Nat.le_of_ble_eq_true rfl⟩) hS (fun q _ h => hFc q h) hFc (fun uZ tZ H1 locs ht hvm hw hB hz1 hk1 hS => ?_)
  obtain ⟨o_2, o_3, o_4⟩ := uZ
  obtain ⟨hP1, hK1, hD1⟩ := hB
  rw [ht] at hP1
  obtain ⟨hP, hD⟩ := va_join (wr := []) (w1 := [(ob, .inr (1, [.ref ob_0, .int o_2, .int o_3])), (ob_0, .inl (k 0, 8, .inl o_4)), (tn, .inr (10, [.int tnv0, .int tnv1, .int tnv2, .ref tn_3, .ref tn_4, .ref tn_5, .ref tn_6, .int tnv7, .int tnv8, .ref tn_9, .ref tn_10, .int tnv11, .ref tn_12, .ref tn_13, .ref tn_14, .ref tn_15, .int tnv16, .ref tn_17, .ref tn_18, .ref tnt])), (tn_3, .inl (k 0, 10, .inl tng3)), (tn_4, .inl (k 0, 10, .inl tng4)), (tn_5, .inl (k 0, 10, .inl tng5)), (tn_9, .inl (k 0, 4, .inl tng9)), (tn_10, .inl (k 0, 4, .inl tng10))]) hP hD [0, 1, 2, 3, 4, 5, 6, 7] [] rfl rfl (by decide +kernel) (by decide +kernel) hk1 hFc hP1 hD1
  clear hK1 hP1 hD1 hPc hDc hFc
  clear hk1 hz1 ht hvm
  have hP : va_P D vwCl [(ob, .inr (1, [.ref ob_0, .int o_2, .int o_3])), (ob_0, .inl (k 0, 8, .inl o_4)), (tn, .inr (10, [.int tnv0, .int tnv1, .int tnv2, .ref tn_3, .ref tn_4, .ref tn_5, .ref tn_6, .int tnv7, .int tnv8, .ref tn_9, .ref tn_10, .int tnv11, .ref tn_12, .ref tn_13, .ref tn_14, .ref tn_15, .int tnv16, .ref tn_17, .ref tn_18, .ref tnt])), (tn_3, .inl (k 0, 10, .inl tng3)), (tn_4, .inl (k 0, 10, .inl tng4)), (tn_5, .inl (k 0, 10, .inl tng5)), (tn_9, .inl (k 0, 4, .inl tng9)), (tn_10, .inl (k 0, 4, .inl tng10))] H1 := hP
  have hD : va_D A [(ob, .inr (1, [.ref ob_0, .int o_2, .int o_3])), (ob_0, .inl (k 0, 8, .inl o_4)), (tn, .inr (10, [.int tnv0, .int tnv1, .int tnv2, .ref tn_3, .ref tn_4, .ref tn_5, .ref tn_6, .int tnv7, .int tnv8, .ref tn_9, .ref tn_10, .int tnv11, .ref tn_12, .ref tn_13, .ref tn_14, .ref tn_15, .int tnv16, .ref tn_17, .ref tn_18, .ref tnt])), (tn_3, .inl (k 0, 10, .inl tng3)), (tn_4, .inl (k 0, 10, .inl tng4)), (tn_5, .inl (k 0, 10, .inl tng5)), (tn_9, .inl (k 0, 4, .inl tng9)), (tn_10, .inl (k 0, 4, .inl tng10))] := hD
  generalize H1 = H at hP hS ⊢
  have hw_5 : (PR 8 1 0 0 1000000 o_4) := hw
  have hw_6 := hw_5
  clear hw
  obtain ⟨hP9, hD9⟩ := sub2 hP hD (ws' := [(ob, .inr (1, [.ref ob_0, .int o_2, .int o_3])), (ob_0, .inl (k 0, 8, .inl o_4)), (tn, .inr (10, [.int tnv0, .int tnv1, .int tnv2, .ref tn_3, .ref tn_4, .ref tn_5, .ref tn_6, .int tnv7, .int tnv8, .ref tn_9, .ref tn_10, .int tnv11, .ref tn_12, .ref tn_13, .ref tn_14, .ref tn_15, .int tnv16, .ref tn_17, .ref tn_18, .ref tnt])), (tn_3, .inl (k 0, 10, .inl tng3)), (tn_4, .inl (k 0, 10, .inl tng4)), (tn_5, .inl (k 0, 10, .inl tng5)), (tn_9, .inl (k 0, 4, .inl tng9)), (tn_10, .inl (k 0, 4, .inl tng10))]) [0, 1, 2, 3, 4, 5, 6, 7] (by decide +kernel) rfl
  exact W.vret hx hb hr (fun tZ ht hW => ⟨⟨(o_2, o_3, o_4), rfl, hw_6, by rw [ht]; exact hP9, va_K.moved hW.alike hK, hD9⟩, hS.F ht⟩) hS.2.2 dX1_fall_9
set_option maxHeartbeats 4000000 in
set_option maxRecDepth 100000 in
theorem c_X1_fallNow (l : Launch) (D : va_G) (k : Nat → ClassId) (ob : Nat) (tn : Nat) (ob_0 : Nat) (obv1 : Int32) (obv2 : Int32) (obg0 : Nat → Int32) (tnv0 : Int32) (tnv1 : Int32) (tnv2 : Int32) (tn_3 : Nat) (tn_4 : Nat) (tn_5 : Nat) (tn_6 : Nat) (tnv7 : Int32) (tnv8 : Int32) (tn_9 : Nat) (tn_10 : Nat) (tnv11 : Int32) (tn_12 : Nat) (tn_13 : Nat) (tn_14 : Nat) (tn_15 : Nat) (tnv16 : Int32) (tn_17 : Nat) (tn_18 : Nat) (tnt : Nat) (tng3 : Nat → Int32) (tng4 : Nat → Int32) (tng5 : Nat → Int32) (tng9 : Nat → Int32) (tng10 : Nat → Int32) (sz : Nat) (hp_obg0_0 : PR 8 1 0 0 1000000 obg0) (h_tnv0 : 0 ≤ tnv0.toInt ∧ tnv0.toInt ≤ 8) (h_tnv2 : 0 ≤ tnv2.toInt ∧ tnv2.toInt ≤ 10) (h_tnv8 : 0 ≤ tnv8.toInt ∧ tnv8.toInt ≤ 4) (h_tnv11 : 0 ≤ tnv11.toInt ∧ tnv11.toInt ≤ 6) (h_tnv16 : 0 ≤ tnv16.toInt ∧ tnv16.toInt ≤ 2) (hp_tng3_0 : PR 10 1 0 0 7 tng3) (hp_tng4_0 : PR 10 1 0 0 7 tng4) (hp_tng5_0 : PR 10 1 0 0 60 tng5) (hp_tng9_0 : PR 4 1 0 0 7 tng9) (hp_tng10_0 : PR 4 1 0 0 99 tng10) : Met l yX1_fallNow (ww yX1_fallNow cX1_fallNow 2 none) ({ frames := 4, cells := 0, slots := 0, locals := 100 }) (Pre0 D k [(ob, .inr (1, [.ref ob_0, .int obv1, .int obv2])), (ob_0, .inl (k 0, 8, .inl obg0)), (tn, .inr (10, [.int tnv0, .int tnv1, .int tnv2, .ref tn_3, .ref tn_4, .ref tn_5, .ref tn_6, .int tnv7, .int tnv8, .ref tn_9, .ref tn_10, .int tnv11, .ref tn_12, .ref tn_13, .ref tn_14, .ref tn_15, .int tnv16, .ref tn_17, .ref tn_18, .ref tnt])), (tn_3, .inl (k 0, 10, .inl tng3)), (tn_4, .inl (k 0, 10, .inl tng4)), (tn_5, .inl (k 0, 10, .inl tng5)), (tn_9, .inl (k 0, 4, .inl tng9)), (tn_10, .inl (k 0, 4, .inl tng10))] sz [.ref ob, .ref tn]) (va_Qv (fun (u : Int32 × Int32 × (Nat → Int32)) => match u with | (obv1z, obv2z, obg0z) => (PR 8 1 0 0 1000000 obg0z)) (fun (u : Int32 × Int32 × (Nat → Int32)) tZ => match u with | (obv1z, obv2z, obg0z) => Bw D k (va_A [(ob, .inr (1, [.ref ob_0, .int obv1, .int obv2])), (ob_0, .inl (k 0, 8, .inl obg0)), (tn, .inr (10, [.int tnv0, .int tnv1, .int tnv2, .ref tn_3, .ref tn_4, .ref tn_5, .ref tn_6, .int tnv7, .int tnv8, .ref tn_9, .ref tn_10, .int tnv11, .ref tn_12, .ref tn_13, .ref tn_14, .ref tn_15, .int tnv16, .ref tn_17, .ref tn_18, .ref tnt])), (tn_3, .inl (k 0, 10, .inl tng3)), (tn_4, .inl (k 0, 10, .inl tng4)), (tn_5, .inl (k 0, 10, .inl tng5)), (tn_9, .inl (k 0, 4, .inl tng9)), (tn_10, .inl (k 0, 4, .inl tng10))] sz) [(ob, .inr (1, [.ref ob_0, .int obv1z, .int obv2z])), (ob_0, .inl (k 0, 8, .inl obg0z)), (tn, .inr (10, [.int tnv0, .int tnv1, .int tnv2, .ref tn_3, .ref tn_4, .ref tn_5, .ref tn_6, .int tnv7, .int tnv8, .ref tn_9, .ref tn_10, .int tnv11, .ref tn_12, .ref tn_13, .ref tn_14, .ref tn_15, .int tnv16, .ref tn_17, .ref tn_18, .ref tnt])), (tn_3, .inl (k 0, 10, .inl tng3)), (tn_4, .inl (k 0, 10, .inl tng4)), (tn_5, .inl (k 0, 10, .inl tng5)), (tn_9, .inl (k 0, 4, .inl tng9)), (tn_10, .inl (k 0, 4, .inl tng10))] tZ) (va_A [(ob, .inr (1, [.ref ob_0, .int obv1, .int obv2])), (ob_0, .inl (k 0, 8, .inl obg0)), (tn, .inr (10, [.int tnv0, .int tnv1, .int tnv2, .ref tn_3, .ref tn_4, .ref tn_5, .ref tn_6, .int tnv7, .int tnv8, .ref tn_9, .ref tn_10, .int tnv11, .ref tn_12, .ref tn_13, .ref tn_14, .ref tn_15, .int tnv16, .ref tn_17, .ref tn_18, .ref tnt])), (tn_3, .inl (k 0, 10, .inl tng3)), (tn_4, .inl (k 0, 10, .inl tng4)), (tn_5, .inl (k 0, 10, .inl tng5)), (tn_9, .inl (k 0, 4, .inl tng9)), (tn_10, .inl (k 0, 4, .inl tng10))] sz)) 0 0 (va_A [(ob, .inr (1, [.ref ob_0, .int obv1, .int obv2])), (ob_0, .inl (k 0, 8, .inl obg0)), (tn, .inr (10, [.int tnv0, .int tnv1, .int tnv2, .ref tn_3, .ref tn_4, .ref tn_5, .ref tn_6, .int tnv7, .int tnv8, .ref tn_9, .ref tn_10, .int tnv11, .ref tn_12, .ref tn_13, .ref tn_14, .ref tn_15, .int tnv16, .ref tn_17, .ref tn_18, .ref tnt])), (tn_3, .inl (k 0, 10, .inl tng3)), (tn_4, .inl (k 0, 10, .inl tng4)), (tn_5, .inl (k 0, 10, .inl tng5)), (tn_9, .inl (k 0, 4, .inl tng9)), (tn_10, .inl (k 0, 4, .inl tng10))] sz) := by
  refine Met.ofW (cc := cX1_fallNow) (maxL := 2) (ret := none) (by decide +kernel) rfl ?_
  intro p e s m args below meth c s₁ B hml hv
  obtain ⟨rfl, hsz, hP, hK, hD0, hN⟩ := hv
  have hx := B.exec
  have hb := B.bytes
  have hr := B.returns
  have hts : ∀ w ∈ TT, w.before _ s = true := fun w h => atoms_spec (ws := ww yX1_fallNow cX1_fallNow 2 none) B.pre w (List.mem_cons_of_mem _ h)
  have hown : s.vm.findClass RX1 = some m.cls := findClass_of_methodNamed B.named
  have hlocks := B.notSynchronized
  subst hsz
  have hD := hD0.self (sz := s.heap.size)
  generalize hAe : va_A [(ob, .inr (1, [.ref ob_0, .int obv1, .int obv2])), (ob_0, .inl (k 0, 8, .inl obg0)), (tn, .inr (10, [.int tnv0, .int tnv1, .int tnv2, .ref tn_3, .ref tn_4, .ref tn_5, .ref tn_6, .int tnv7, .int tnv8, .ref tn_9, .ref tn_10, .int tnv11, .ref tn_12, .ref tn_13, .ref tn_14, .ref tn_15, .int tnv16, .ref tn_17, .ref tn_18, .ref tnt])), (tn_3, .inl (k 0, 10, .inl tng3)), (tn_4, .inl (k 0, 10, .inl tng4)), (tn_5, .inl (k 0, 10, .inl tng5)), (tn_9, .inl (k 0, 4, .inl tng9)), (tn_10, .inl (k 0, 4, .inl tng10))] s.heap.size = A at hD ⊢
  have hA : ∀ q : Nat, s.heap.size ≤ q → A q := fun q h => by rw [← hAe]; exact Or.inr h
  have hS : va_S A s.heap s.heap [] := va_S.rf
  have hl := lv_entry ([.ref ob, .ref tn]) (n := 2) (Nat.le_of_ble_eq_true rfl)
  rw [lg_entry_eq]
  generalize (lg_sl ([.ref ob, .ref tn]) ++ List.replicate (2 - (lg_sl ([.ref ob, .ref tn])).length) Slot.unset).toArray = ls at hl ⊢
  have hl : lv_has ls 2 [(0, .ref ob), (1, .ref tn)] := hl
  refine lv_aload_n hx hb dX1_fallNow_0 rfl (lv_at hl 0 rfl) ?_
  refine lv_aload_n hx hb dX1_fallNow_1 rfl (lv_at hl 1 rfl) ?_
  refine lv_aload_n hx hb dX1_fallNow_2 rfl (lv_at hl 1 rfl) ?_
  obtain ⟨hPc, hDc, hFc⟩ := sub3 hP hD hS hA (ws' := [(tn, .inr (10, [.int tnv0, .int tnv1, .int tnv2, .ref tn_3, .ref tn_4, .ref tn_5, .ref tn_6, .int tnv7, .int tnv8, .ref tn_9, .ref tn_10, .int tnv11, .ref tn_12, .ref tn_13, .ref tn_14, .ref tn_15, .int tnv16, .ref tn_17, .ref tn_18, .ref tnt]))]) [2] (by decide +kernel) rfl
  refine va_calli (va_runV (C := RX10) (As := []) (rest := [.ref tn, .ref ob]) ⟨hx, hb, hml, hown, hts⟩ (c_X10_openLanes l D k tn tnv0 tnv1 tnv2 tn_3 tn_4 tn_5 tn_6 tnv7 tnv8 tn_9 tn_10 tnv11 tn_12 tn_13 tn_14 tn_15 tnv16 tn_17 tn_18 tnt s.heap.size (show 0 ≤ tnv0.toInt ∧ tnv0.toInt ≤ 8 from by omega) (show 0 ≤ tnv2.toInt ∧ tnv2.toInt ≤ 10 from by omega) (show 0 ≤ tnv8.toInt ∧ tnv8.toInt ≤ 4 from by omega) (show 0 ≤ tnv11.toInt ∧ tnv11.toInt ≤ 6 from by omega) (show 0 ≤ tnv16.toInt ∧ tnv16.toInt ≤ 2 from by omega)) (cwV 0 hts (gV tw_3_179 tw_3_180 tw_3_181 tw_1_3 tw_3_182) rfl rfl rfl hdV_X10_openLanes ⟨Nat.le_of_ble_eq_true rfl, Nat.le_of_ble_eq_true rfl⟩) (cz_V hK hPc hDc hN (ci := 10) (q0 := 0) rfl rfl []) rfl rfl hl.1 rfl (lv_room (Nat.le_of_ble_eq_true rfl)) dX1_fallNow_3 ⟨Nat.le_of_ble_eq_true rfl, Nat.le_of_ble_eq_true rfl⟩) hS (fun q _ h => hFc q h) hFc (fun r_1 uZ tZ H1 locs ht hvm hw hB hz1 hk1 hS => ?_)
  obtain ⟨hP1, hK1, hD1⟩ := hB
  rw [ht] at hP1
  obtain ⟨hP, hD⟩ := va_join (wr := [(ob, .inr (1, [.ref ob_0, .int obv1, .int obv2])), (ob_0, .inl (k 0, 8, .inl obg0)), (tn_3, .inl (k 0, 10, .inl tng3)), (tn_4, .inl (k 0, 10, .inl tng4)), (tn_5, .inl (k 0, 10, .inl tng5)), (tn_9, .inl (k 0, 4, .inl tng9)), (tn_10, .inl (k 0, 4, .inl tng10))]) (w1 := [(tn, .inr (10, [.int tnv0, .int tnv1, .int tnv2, .ref tn_3, .ref tn_4, .ref tn_5, .ref tn_6, .int tnv7, .int tnv8, .ref tn_9, .ref tn_10, .int tnv11, .ref tn_12, .ref tn_13, .ref tn_14, .ref tn_15, .int tnv16, .ref tn_17, .ref tn_18, .ref tnt]))]) hP hD [2] [0, 1, 3, 4, 5, 6, 7] rfl rfl (by decide +kernel) (by decide +kernel) hk1 hFc hP1 hD1
  clear hK1 hP1 hD1 hPc hDc hFc
  clear hk1 hz1 ht hvm
  have hP : va_P D vwCl [(ob, .inr (1, [.ref ob_0, .int obv1, .int obv2])), (ob_0, .inl (k 0, 8, .inl obg0)), (tn_3, .inl (k 0, 10, .inl tng3)), (tn_4, .inl (k 0, 10, .inl tng4)), (tn_5, .inl (k 0, 10, .inl tng5)), (tn_9, .inl (k 0, 4, .inl tng9)), (tn_10, .inl (k 0, 4, .inl tng10)), (tn, .inr (10, [.int tnv0, .int tnv1, .int tnv2, .ref tn_3, .ref tn_4, .ref tn_5, .ref tn_6, .int tnv7, .int tnv8, .ref tn_9, .ref tn_10, .int tnv11, .ref tn_12, .ref tn_13, .ref tn_14, .ref tn_15, .int tnv16, .ref tn_17, .ref tn_18, .ref tnt]))] H1 := hP
  have hD : va_D A [(ob, .inr (1, [.ref ob_0, .int obv1, .int obv2])), (ob_0, .inl (k 0, 8, .inl obg0)), (tn_3, .inl (k 0, 10, .inl tng3)), (tn_4, .inl (k 0, 10, .inl tng4)), (tn_5, .inl (k 0, 10, .inl tng5)), (tn_9, .inl (k 0, 4, .inl tng9)), (tn_10, .inl (k 0, 4, .inl tng10)), (tn, .inr (10, [.int tnv0, .int tnv1, .int tnv2, .ref tn_3, .ref tn_4, .ref tn_5, .ref tn_6, .int tnv7, .int tnv8, .ref tn_9, .ref tn_10, .int tnv11, .ref tn_12, .ref tn_13, .ref tn_14, .ref tn_15, .int tnv16, .ref tn_17, .ref tn_18, .ref tnt]))] := hD
  generalize H1 = H at hP hS ⊢
  have hw_2 : (0 ≤ r_1.toInt ∧ r_1.toInt ≤ 1023) := hw
  have hw_3 := hw_2
  clear hw
  refine lv_iconst (v := 0) hx hb dX1_fallNow_6 (by decide) ?_
  obtain ⟨hPc, hDc, hFc⟩ := sub3 hP hD hS hA (ws' := [(ob, .inr (1, [.ref ob_0, .int obv1, .int obv2])), (ob_0, .inl (k 0, 8, .inl obg0)), (tn, .inr (10, [.int tnv0, .int tnv1, .int tnv2, .ref tn_3, .ref tn_4, .ref tn_5, .ref tn_6, .int tnv7, .int tnv8, .ref tn_9, .ref tn_10, .int tnv11, .ref tn_12, .ref tn_13, .ref tn_14, .ref tn_15, .int tnv16, .ref tn_17, .ref tn_18, .ref tnt])), (tn_3, .inl (k 0, 10, .inl tng3)), (tn_4, .inl (k 0, 10, .inl tng4)), (tn_5, .inl (k 0, 10, .inl tng5)), (tn_9, .inl (k 0, 4, .inl tng9)), (tn_10, .inl (k 0, 4, .inl tng10))]) [0, 1, 7, 2, 3, 4, 5, 6] (by decide +kernel) rfl
  refine va_callv (va_runV (C := RX1) (As := [.ref tn, .int r_1, .int 0]) (rest := []) ⟨hx, hb, hml, hown, hts⟩ (c_X1_fall l D k ob tn r_1 0 ob_0 obv1 obv2 obg0 tnv0 tnv1 tnv2 tn_3 tn_4 tn_5 tn_6 tnv7 tnv8 tn_9 tn_10 tnv11 tn_12 tn_13 tn_14 tn_15 tnv16 tn_17 tn_18 tnt tng3 tng4 tng5 tng9 tng10 H.size hp_obg0_0 (show 0 ≤ tnv0.toInt ∧ tnv0.toInt ≤ 8 from by omega) (show 0 ≤ tnv2.toInt ∧ tnv2.toInt ≤ 10 from by omega) (show 0 ≤ tnv8.toInt ∧ tnv8.toInt ≤ 4 from by omega) (show 0 ≤ tnv11.toInt ∧ tnv11.toInt ≤ 6 from by omega) (show 0 ≤ tnv16.toInt ∧ tnv16.toInt ≤ 2 from by omega) hp_tng3_0 hp_tng4_0 hp_tng5_0 hp_tng9_0 hp_tng10_0) (cwV 3 hts (gV tw_3_183 tw_3_184 tw_3_185 tw_1_6 tw_3_186) rfl rfl rfl hdV_X1_fall ⟨Nat.le_of_ble_eq_true rfl, Nat.le_of_ble_eq_true rfl⟩) (cz_V hK hPc hDc hN (ci := 1) (q0 := 0) rfl rfl [.ref tn, .int r_1, .int 0]) rfl rfl hl.1 rfl (lv_room (Nat.le_of_ble_eq_true rfl)) dX1_fallNow_7 ⟨Nat.le_of_ble_eq_true rfl, Nat.le_of_ble_eq_true rfl⟩) hS (fun q _ h => hFc q h) hFc (fun uZ tZ H1 locs ht hvm hw hB hz1 hk1 hS => ?_)
  obtain ⟨o_5, o_6, o_7⟩ := uZ
  obtain ⟨hP1, hK1, hD1⟩ := hB
  rw [ht] at hP1
  obtain ⟨hP, hD⟩ := va_join (wr := []) (w1 := [(ob, .inr (1, [.ref ob_0, .int o_5, .int o_6])), (ob_0, .inl (k 0, 8, .inl o_7)), (tn, .inr (10, [.int tnv0, .int tnv1, .int tnv2, .ref tn_3, .ref tn_4, .ref tn_5, .ref tn_6, .int tnv7, .int tnv8, .ref tn_9, .ref tn_10, .int tnv11, .ref tn_12, .ref tn_13, .ref tn_14, .ref tn_15, .int tnv16, .ref tn_17, .ref tn_18, .ref tnt])), (tn_3, .inl (k 0, 10, .inl tng3)), (tn_4, .inl (k 0, 10, .inl tng4)), (tn_5, .inl (k 0, 10, .inl tng5)), (tn_9, .inl (k 0, 4, .inl tng9)), (tn_10, .inl (k 0, 4, .inl tng10))]) hP hD [0, 1, 7, 2, 3, 4, 5, 6] [] rfl rfl (by decide +kernel) (by decide +kernel) hk1 hFc hP1 hD1
  clear hK1 hP1 hD1 hPc hDc hFc
  clear hk1 hz1 ht hvm
  have hP : va_P D vwCl [(ob, .inr (1, [.ref ob_0, .int o_5, .int o_6])), (ob_0, .inl (k 0, 8, .inl o_7)), (tn, .inr (10, [.int tnv0, .int tnv1, .int tnv2, .ref tn_3, .ref tn_4, .ref tn_5, .ref tn_6, .int tnv7, .int tnv8, .ref tn_9, .ref tn_10, .int tnv11, .ref tn_12, .ref tn_13, .ref tn_14, .ref tn_15, .int tnv16, .ref tn_17, .ref tn_18, .ref tnt])), (tn_3, .inl (k 0, 10, .inl tng3)), (tn_4, .inl (k 0, 10, .inl tng4)), (tn_5, .inl (k 0, 10, .inl tng5)), (tn_9, .inl (k 0, 4, .inl tng9)), (tn_10, .inl (k 0, 4, .inl tng10))] H1 := hP
  have hD : va_D A [(ob, .inr (1, [.ref ob_0, .int o_5, .int o_6])), (ob_0, .inl (k 0, 8, .inl o_7)), (tn, .inr (10, [.int tnv0, .int tnv1, .int tnv2, .ref tn_3, .ref tn_4, .ref tn_5, .ref tn_6, .int tnv7, .int tnv8, .ref tn_9, .ref tn_10, .int tnv11, .ref tn_12, .ref tn_13, .ref tn_14, .ref tn_15, .int tnv16, .ref tn_17, .ref tn_18, .ref tnt])), (tn_3, .inl (k 0, 10, .inl tng3)), (tn_4, .inl (k 0, 10, .inl tng4)), (tn_5, .inl (k 0, 10, .inl tng5)), (tn_9, .inl (k 0, 4, .inl tng9)), (tn_10, .inl (k 0, 4, .inl tng10))] := hD
  generalize H1 = H at hP hS ⊢
  have hw_8 : (PR 8 1 0 0 1000000 o_7) := hw
  have hw_9 := hw_8
  clear hw
  obtain ⟨hP9, hD9⟩ := sub2 hP hD (ws' := [(ob, .inr (1, [.ref ob_0, .int o_5, .int o_6])), (ob_0, .inl (k 0, 8, .inl o_7)), (tn, .inr (10, [.int tnv0, .int tnv1, .int tnv2, .ref tn_3, .ref tn_4, .ref tn_5, .ref tn_6, .int tnv7, .int tnv8, .ref tn_9, .ref tn_10, .int tnv11, .ref tn_12, .ref tn_13, .ref tn_14, .ref tn_15, .int tnv16, .ref tn_17, .ref tn_18, .ref tnt])), (tn_3, .inl (k 0, 10, .inl tng3)), (tn_4, .inl (k 0, 10, .inl tng4)), (tn_5, .inl (k 0, 10, .inl tng5)), (tn_9, .inl (k 0, 4, .inl tng9)), (tn_10, .inl (k 0, 4, .inl tng10))]) [0, 1, 2, 3, 4, 5, 6, 7] (by decide +kernel) rfl
  exact W.vret hx hb hr (fun tZ ht hW => ⟨⟨(o_5, o_6, o_7), rfl, hw_9, by rw [ht]; exact hP9, va_K.moved hW.alike hK, hD9⟩, hS.F ht⟩) hS.2.2 dX1_fallNow_10
set_option maxHeartbeats 4000000 in
set_option maxRecDepth 100000 in
theorem c_X1_fallFrom (l : Launch) (D : va_G) (k : Nat → ClassId) (ob : Nat) (tn : Nat) (p1 : Int32) (p2 : Int32) (ob_0 : Nat) (obv1 : Int32) (obv2 : Int32) (obg0 : Nat → Int32) (tnv0 : Int32) (tnv1 : Int32) (tnv2 : Int32) (tn_3 : Nat) (tn_4 : Nat) (tn_5 : Nat) (tn_6 : Nat) (tnv7 : Int32) (tnv8 : Int32) (tn_9 : Nat) (tn_10 : Nat) (tnv11 : Int32) (tn_12 : Nat) (tn_13 : Nat) (tn_14 : Nat) (tn_15 : Nat) (tnv16 : Int32) (tn_17 : Nat) (tn_18 : Nat) (tnt : Nat) (tng3 : Nat → Int32) (tng4 : Nat → Int32) (tng5 : Nat → Int32) (sz : Nat) (h_p2 : 0 ≤ p2.toInt ∧ p2.toInt ≤ 999) (hp_obg0_0 : PR 8 1 0 0 1000000 obg0) (h_tnv0 : 0 ≤ tnv0.toInt ∧ tnv0.toInt ≤ 8) (h_tnv2 : 0 ≤ tnv2.toInt ∧ tnv2.toInt ≤ 10) (h_tnv8 : 0 ≤ tnv8.toInt ∧ tnv8.toInt ≤ 4) (h_tnv11 : 0 ≤ tnv11.toInt ∧ tnv11.toInt ≤ 6) (h_tnv16 : 0 ≤ tnv16.toInt ∧ tnv16.toInt ≤ 2) (hp_tng3_0 : PR 10 1 0 0 7 tng3) (hp_tng4_0 : PR 10 1 0 0 7 tng4) (hp_tng5_0 : PR 10 1 0 0 60 tng5) : Met l yX1_fallFrom (ww yX1_fallFrom cX1_fallFrom 4 none) ({ frames := 2, cells := 0, slots := 0, locals := 51 }) (Pre0 D k [(ob, .inr (1, [.ref ob_0, .int obv1, .int obv2])), (ob_0, .inl (k 0, 8, .inl obg0)), (tn, .inr (10, [.int tnv0, .int tnv1, .int tnv2, .ref tn_3, .ref tn_4, .ref tn_5, .ref tn_6, .int tnv7, .int tnv8, .ref tn_9, .ref tn_10, .int tnv11, .ref tn_12, .ref tn_13, .ref tn_14, .ref tn_15, .int tnv16, .ref tn_17, .ref tn_18, .ref tnt])), (tn_3, .inl (k 0, 10, .inl tng3)), (tn_4, .inl (k 0, 10, .inl tng4)), (tn_5, .inl (k 0, 10, .inl tng5))] sz [.ref ob, .ref tn, .int p1, .int p2]) (va_Qv (fun (u : Int32 × Int32 × (Nat → Int32)) => match u with | (obv1z, obv2z, obg0z) => (PR 8 1 0 0 1000000 obg0z)) (fun (u : Int32 × Int32 × (Nat → Int32)) tZ => match u with | (obv1z, obv2z, obg0z) => Bw D k (va_A [(ob, .inr (1, [.ref ob_0, .int obv1, .int obv2])), (ob_0, .inl (k 0, 8, .inl obg0)), (tn, .inr (10, [.int tnv0, .int tnv1, .int tnv2, .ref tn_3, .ref tn_4, .ref tn_5, .ref tn_6, .int tnv7, .int tnv8, .ref tn_9, .ref tn_10, .int tnv11, .ref tn_12, .ref tn_13, .ref tn_14, .ref tn_15, .int tnv16, .ref tn_17, .ref tn_18, .ref tnt])), (tn_3, .inl (k 0, 10, .inl tng3)), (tn_4, .inl (k 0, 10, .inl tng4)), (tn_5, .inl (k 0, 10, .inl tng5))] sz) [(ob, .inr (1, [.ref ob_0, .int obv1z, .int obv2z])), (ob_0, .inl (k 0, 8, .inl obg0z)), (tn, .inr (10, [.int tnv0, .int tnv1, .int tnv2, .ref tn_3, .ref tn_4, .ref tn_5, .ref tn_6, .int tnv7, .int tnv8, .ref tn_9, .ref tn_10, .int tnv11, .ref tn_12, .ref tn_13, .ref tn_14, .ref tn_15, .int tnv16, .ref tn_17, .ref tn_18, .ref tnt])), (tn_3, .inl (k 0, 10, .inl tng3)), (tn_4, .inl (k 0, 10, .inl tng4)), (tn_5, .inl (k 0, 10, .inl tng5))] tZ) (va_A [(ob, .inr (1, [.ref ob_0, .int obv1, .int obv2])), (ob_0, .inl (k 0, 8, .inl obg0)), (tn, .inr (10, [.int tnv0, .int tnv1, .int tnv2, .ref tn_3, .ref tn_4, .ref tn_5, .ref tn_6, .int tnv7, .int tnv8, .ref tn_9, .ref tn_10, .int tnv11, .ref tn_12, .ref tn_13, .ref tn_14, .ref tn_15, .int tnv16, .ref tn_17, .ref tn_18, .ref tnt])), (tn_3, .inl (k 0, 10, .inl tng3)), (tn_4, .inl (k 0, 10, .inl tng4)), (tn_5, .inl (k 0, 10, .inl tng5))] sz)) 0 0 (va_A [(ob, .inr (1, [.ref ob_0, .int obv1, .int obv2])), (ob_0, .inl (k 0, 8, .inl obg0)), (tn, .inr (10, [.int tnv0, .int tnv1, .int tnv2, .ref tn_3, .ref tn_4, .ref tn_5, .ref tn_6, .int tnv7, .int tnv8, .ref tn_9, .ref tn_10, .int tnv11, .ref tn_12, .ref tn_13, .ref tn_14, .ref tn_15, .int tnv16, .ref tn_17, .ref tn_18, .ref tnt])), (tn_3, .inl (k 0, 10, .inl tng3)), (tn_4, .inl (k 0, 10, .inl tng4)), (tn_5, .inl (k 0, 10, .inl tng5))] sz) := by
  refine Met.ofW (cc := cX1_fallFrom) (maxL := 4) (ret := none) (by decide +kernel) rfl ?_
  intro p e s m args below meth c s₁ B hml hv
  obtain ⟨rfl, hsz, hP, hK, hD0, hN⟩ := hv
  have hx := B.exec
  have hb := B.bytes
  have hr := B.returns
  have hts : ∀ w ∈ TT, w.before _ s = true := fun w h => atoms_spec (ws := ww yX1_fallFrom cX1_fallFrom 4 none) B.pre w (List.mem_cons_of_mem _ h)
  have hown : s.vm.findClass RX1 = some m.cls := findClass_of_methodNamed B.named
  have hlocks := B.notSynchronized
  subst hsz
  have hD := hD0.self (sz := s.heap.size)
  generalize hAe : va_A [(ob, .inr (1, [.ref ob_0, .int obv1, .int obv2])), (ob_0, .inl (k 0, 8, .inl obg0)), (tn, .inr (10, [.int tnv0, .int tnv1, .int tnv2, .ref tn_3, .ref tn_4, .ref tn_5, .ref tn_6, .int tnv7, .int tnv8, .ref tn_9, .ref tn_10, .int tnv11, .ref tn_12, .ref tn_13, .ref tn_14, .ref tn_15, .int tnv16, .ref tn_17, .ref tn_18, .ref tnt])), (tn_3, .inl (k 0, 10, .inl tng3)), (tn_4, .inl (k 0, 10, .inl tng4)), (tn_5, .inl (k 0, 10, .inl tng5))] s.heap.size = A at hD ⊢
  have hA : ∀ q : Nat, s.heap.size ≤ q → A q := fun q h => by rw [← hAe]; exact Or.inr h
  have hS : va_S A s.heap s.heap [] := va_S.rf
  have hl := lv_entry ([.ref ob, .ref tn, .int p1, .int p2]) (n := 4) (Nat.le_of_ble_eq_true rfl)
  rw [lg_entry_eq]
  generalize (lg_sl ([.ref ob, .ref tn, .int p1, .int p2]) ++ List.replicate (4 - (lg_sl ([.ref ob, .ref tn, .int p1, .int p2])).length) Slot.unset).toArray = ls at hl ⊢
  have hl : lv_has ls 4 [(0, .ref ob), (1, .ref tn), (2, .int p1), (3, .int p2)] := hl
  refine lv_aload_n hx hb dX1_fallFrom_0 rfl (lv_at hl 0 rfl) ?_
  refine va_get (D := D) (ci := 1) (v := .ref ob_0) (C := RX1) (T := TX1) (N := 3) hx hb hts iT_X1 hown hK hP 0 rfl rfl 0 (by decide) (hts _ tw_2_17) (fun _ h9 => h9) rfl dX1_fallFrom_1 ?_
  refine lv_ldc (v := 1000000) hx hb hown (hts _ tw_3_191) dX1_fallFrom_4 ?_
  obtain ⟨hPc, hDc, hFc⟩ := sub3 hP hD hS hA (ws' := [(ob_0, .inl (k 0, 8, .inl obg0))]) [1] (by decide +kernel) rfl
  refine va_callv (va_runS (As := [.ref ob_0, .int 1000000]) (rest := []) ⟨hx, hb, hml, hown, hts⟩ (c_J7_fill_53178_0 l D k ob_0 obg0 s.heap.size) (va_cwS 2 hts (gS tw_3_192 tw_3_193 tw_1_19 tw_3_194) rfl rfl rfl hdS_J7_fill_53178 ⟨Nat.le_of_ble_eq_true rfl, Nat.le_of_ble_eq_true rfl⟩) (cz_S hK hPc hDc hN [.ref ob_0, .int 1000000]) rfl rfl hl.1 rfl (lv_room (Nat.le_of_ble_eq_true rfl)) dX1_fallFrom_6 ⟨Nat.le_of_ble_eq_true rfl, Nat.le_of_ble_eq_true rfl⟩) hS (fun q _ h => hFc q h) hFc (fun uZ tZ H1 locs ht hvm hw hB hz1 hk1 hS => ?_)
  obtain ⟨o_2, rfl⟩ : ∃ z, z = uZ := ⟨_, rfl⟩
  obtain ⟨hP1, hK1, hD1⟩ := hB
  rw [ht] at hP1
  obtain ⟨hP, hD⟩ := va_join (wr := [(ob, .inr (1, [.ref ob_0, .int obv1, .int obv2])), (tn, .inr (10, [.int tnv0, .int tnv1, .int tnv2, .ref tn_3, .ref tn_4, .ref tn_5, .ref tn_6, .int tnv7, .int tnv8, .ref tn_9, .ref tn_10, .int tnv11, .ref tn_12, .ref tn_13, .ref tn_14, .ref tn_15, .int tnv16, .ref tn_17, .ref tn_18, .ref tnt])), (tn_3, .inl (k 0, 10, .inl tng3)), (tn_4, .inl (k 0, 10, .inl tng4)), (tn_5, .inl (k 0, 10, .inl tng5))]) (w1 := [(ob_0, .inl (k 0, 8, .inl o_2))]) hP hD [1] [0, 2, 3, 4, 5] rfl rfl (by decide +kernel) (by decide +kernel) hk1 hFc hP1 hD1
  clear hK1 hP1 hD1 hPc hDc hFc
  clear hk1 hz1 ht hvm
  have hP : va_P D vwCl [(ob, .inr (1, [.ref ob_0, .int obv1, .int obv2])), (tn, .inr (10, [.int tnv0, .int tnv1, .int tnv2, .ref tn_3, .ref tn_4, .ref tn_5, .ref tn_6, .int tnv7, .int tnv8, .ref tn_9, .ref tn_10, .int tnv11, .ref tn_12, .ref tn_13, .ref tn_14, .ref tn_15, .int tnv16, .ref tn_17, .ref tn_18, .ref tnt])), (tn_3, .inl (k 0, 10, .inl tng3)), (tn_4, .inl (k 0, 10, .inl tng4)), (tn_5, .inl (k 0, 10, .inl tng5)), (ob_0, .inl (k 0, 8, .inl o_2))] H1 := hP
  have hD : va_D A [(ob, .inr (1, [.ref ob_0, .int obv1, .int obv2])), (tn, .inr (10, [.int tnv0, .int tnv1, .int tnv2, .ref tn_3, .ref tn_4, .ref tn_5, .ref tn_6, .int tnv7, .int tnv8, .ref tn_9, .ref tn_10, .int tnv11, .ref tn_12, .ref tn_13, .ref tn_14, .ref tn_15, .int tnv16, .ref tn_17, .ref tn_18, .ref tnt])), (tn_3, .inl (k 0, 10, .inl tng3)), (tn_4, .inl (k 0, 10, .inl tng4)), (tn_5, .inl (k 0, 10, .inl tng5)), (ob_0, .inl (k 0, 8, .inl o_2))] := hD
  generalize H1 = H at hP hS ⊢
  have hw_3 : (PR 8 1 0 0 1000000 o_2) := hw
  have hw_4 := hw_3
  clear hw
  refine lv_aload_n hx hb dX1_fallFrom_9 rfl (lv_at hl 0 rfl) ?_
  refine lv_iload_n hx hb dX1_fallFrom_10 rfl (lv_at hl 2 rfl) ?_
  refine lv_iload_n hx hb dX1_fallFrom_11 rfl (lv_at hl 3 rfl) ?_
  obtain ⟨hPc, hDc, hFc⟩ := sub3 hP hD hS hA (ws' := [(ob, .inr (1, [.ref ob_0, .int obv1, .int obv2])), (ob_0, .inl (k 0, 8, .inl o_2))]) [0, 5] (by decide +kernel) rfl
  refine va_callv (va_runV (C := RX1) (As := [.int p1, .int p2]) (rest := []) ⟨hx, hb, hml, hown, hts⟩ (c_X1_enter l D k ob p1 p2 ob_0 obv1 obv2 o_2 H.size (show 0 ≤ p2.toInt ∧ p2.toInt ≤ 1000000 from by omega) hw_4) (cwV 2 hts (gV tw_3_195 tw_3_197 tw_p_19 tw_1_6 tw_3_198) rfl rfl rfl hdV_X1_enter ⟨Nat.le_of_ble_eq_true rfl, Nat.le_of_ble_eq_true rfl⟩) (cz_V hK hPc hDc hN (ci := 1) (q0 := 0) rfl rfl [.int p1, .int p2]) rfl rfl hl.1 rfl (lv_room (Nat.le_of_ble_eq_true rfl)) dX1_fallFrom_12 ⟨Nat.le_of_ble_eq_true rfl, Nat.le_of_ble_eq_true rfl⟩) hS (fun q _ h => hFc q h) hFc (fun uZ tZ H1 locs ht hvm hw hB hz1 hk1 hS => ?_)
  obtain ⟨o_6, rfl⟩ : ∃ z, z = uZ := ⟨_, rfl⟩
  obtain ⟨hP1, hK1, hD1⟩ := hB
  rw [ht] at hP1
  obtain ⟨hP, hD⟩ := va_join (wr := [(tn, .inr (10, [.int tnv0, .int tnv1, .int tnv2, .ref tn_3, .ref tn_4, .ref tn_5, .ref tn_6, .int tnv7, .int tnv8, .ref tn_9, .ref tn_10, .int tnv11, .ref tn_12, .ref tn_13, .ref tn_14, .ref tn_15, .int tnv16, .ref tn_17, .ref tn_18, .ref tnt])), (tn_3, .inl (k 0, 10, .inl tng3)), (tn_4, .inl (k 0, 10, .inl tng4)), (tn_5, .inl (k 0, 10, .inl tng5))]) (w1 := [(ob, .inr (1, [.ref ob_0, .int obv1, .int obv2])), (ob_0, .inl (k 0, 8, .inl o_6))]) hP hD [0, 5] [1, 2, 3, 4] rfl rfl (by decide +kernel) (by decide +kernel) hk1 hFc hP1 hD1
  clear hK1 hP1 hD1 hPc hDc hFc
  clear hk1 hz1 ht hvm
  have hP : va_P D vwCl [(tn, .inr (10, [.int tnv0, .int tnv1, .int tnv2, .ref tn_3, .ref tn_4, .ref tn_5, .ref tn_6, .int tnv7, .int tnv8, .ref tn_9, .ref tn_10, .int tnv11, .ref tn_12, .ref tn_13, .ref tn_14, .ref tn_15, .int tnv16, .ref tn_17, .ref tn_18, .ref tnt])), (tn_3, .inl (k 0, 10, .inl tng3)), (tn_4, .inl (k 0, 10, .inl tng4)), (tn_5, .inl (k 0, 10, .inl tng5)), (ob, .inr (1, [.ref ob_0, .int obv1, .int obv2])), (ob_0, .inl (k 0, 8, .inl o_6))] H1 := hP
  have hD : va_D A [(tn, .inr (10, [.int tnv0, .int tnv1, .int tnv2, .ref tn_3, .ref tn_4, .ref tn_5, .ref tn_6, .int tnv7, .int tnv8, .ref tn_9, .ref tn_10, .int tnv11, .ref tn_12, .ref tn_13, .ref tn_14, .ref tn_15, .int tnv16, .ref tn_17, .ref tn_18, .ref tnt])), (tn_3, .inl (k 0, 10, .inl tng3)), (tn_4, .inl (k 0, 10, .inl tng4)), (tn_5, .inl (k 0, 10, .inl tng5)), (ob, .inr (1, [.ref ob_0, .int obv1, .int obv2])), (ob_0, .inl (k 0, 8, .inl o_6))] := hD
  generalize H1 = H at hP hS ⊢
  have hw_7 : (PR 8 1 0 0 1000000 o_6) := hw
  have hw_8 := hw_7
  clear hw
  refine lv_aload_n hx hb dX1_fallFrom_15 rfl (lv_at hl 0 rfl) ?_
  refine lv_aload_n hx hb dX1_fallFrom_16 rfl (lv_at hl 1 rfl) ?_
  refine lv_aload_n hx hb dX1_fallFrom_17 rfl (lv_at hl 1 rfl) ?_
  obtain ⟨hPc, hDc, hFc⟩ := sub3 hP hD hS hA (ws' := [(tn, .inr (10, [.int tnv0, .int tnv1, .int tnv2, .ref tn_3, .ref tn_4, .ref tn_5, .ref tn_6, .int tnv7, .int tnv8, .ref tn_9, .ref tn_10, .int tnv11, .ref tn_12, .ref tn_13, .ref tn_14, .ref tn_15, .int tnv16, .ref tn_17, .ref tn_18, .ref tnt]))]) [0] (by decide +kernel) rfl
  refine va_calli (va_runV (C := RX10) (As := []) (rest := [.ref tn, .ref ob]) ⟨hx, hb, hml, hown, hts⟩ (c_X10_openLanes l D k tn tnv0 tnv1 tnv2 tn_3 tn_4 tn_5 tn_6 tnv7 tnv8 tn_9 tn_10 tnv11 tn_12 tn_13 tn_14 tn_15 tnv16 tn_17 tn_18 tnt H.size (show 0 ≤ tnv0.toInt ∧ tnv0.toInt ≤ 8 from by omega) (show 0 ≤ tnv2.toInt ∧ tnv2.toInt ≤ 10 from by omega) (show 0 ≤ tnv8.toInt ∧ tnv8.toInt ≤ 4 from by omega) (show 0 ≤ tnv11.toInt ∧ tnv11.toInt ≤ 6 from by omega) (show 0 ≤ tnv16.toInt ∧ tnv16.toInt ≤ 2 from by omega)) (cwV 0 hts (gV tw_3_179 tw_3_180 tw_3_181 tw_1_3 tw_3_182) rfl rfl rfl hdV_X10_openLanes ⟨Nat.le_of_ble_eq_true rfl, Nat.le_of_ble_eq_true rfl⟩) (cz_V hK hPc hDc hN (ci := 10) (q0 := 0) rfl rfl []) rfl rfl hl.1 rfl (lv_room (Nat.le_of_ble_eq_true rfl)) dX1_fallFrom_18 ⟨Nat.le_of_ble_eq_true rfl, Nat.le_of_ble_eq_true rfl⟩) hS (fun q _ h => hFc q h) hFc (fun r_9 uZ tZ H1 locs ht hvm hw hB hz1 hk1 hS => ?_)
  obtain ⟨hP1, hK1, hD1⟩ := hB
  rw [ht] at hP1
  obtain ⟨hP, hD⟩ := va_join (wr := [(tn_3, .inl (k 0, 10, .inl tng3)), (tn_4, .inl (k 0, 10, .inl tng4)), (tn_5, .inl (k 0, 10, .inl tng5)), (ob, .inr (1, [.ref ob_0, .int obv1, .int obv2])), (ob_0, .inl (k 0, 8, .inl o_6))]) (w1 := [(tn, .inr (10, [.int tnv0, .int tnv1, .int tnv2, .ref tn_3, .ref tn_4, .ref tn_5, .ref tn_6, .int tnv7, .int tnv8, .ref tn_9, .ref tn_10, .int tnv11, .ref tn_12, .ref tn_13, .ref tn_14, .ref tn_15, .int tnv16, .ref tn_17, .ref tn_18, .ref tnt]))]) hP hD [0] [1, 2, 3, 4, 5] rfl rfl (by decide +kernel) (by decide +kernel) hk1 hFc hP1 hD1
  clear hK1 hP1 hD1 hPc hDc hFc
  clear hk1 hz1 ht hvm
  have hP : va_P D vwCl [(tn_3, .inl (k 0, 10, .inl tng3)), (tn_4, .inl (k 0, 10, .inl tng4)), (tn_5, .inl (k 0, 10, .inl tng5)), (ob, .inr (1, [.ref ob_0, .int obv1, .int obv2])), (ob_0, .inl (k 0, 8, .inl o_6)), (tn, .inr (10, [.int tnv0, .int tnv1, .int tnv2, .ref tn_3, .ref tn_4, .ref tn_5, .ref tn_6, .int tnv7, .int tnv8, .ref tn_9, .ref tn_10, .int tnv11, .ref tn_12, .ref tn_13, .ref tn_14, .ref tn_15, .int tnv16, .ref tn_17, .ref tn_18, .ref tnt]))] H1 := hP
  have hD : va_D A [(tn_3, .inl (k 0, 10, .inl tng3)), (tn_4, .inl (k 0, 10, .inl tng4)), (tn_5, .inl (k 0, 10, .inl tng5)), (ob, .inr (1, [.ref ob_0, .int obv1, .int obv2])), (ob_0, .inl (k 0, 8, .inl o_6)), (tn, .inr (10, [.int tnv0, .int tnv1, .int tnv2, .ref tn_3, .ref tn_4, .ref tn_5, .ref tn_6, .int tnv7, .int tnv8, .ref tn_9, .ref tn_10, .int tnv11, .ref tn_12, .ref tn_13, .ref tn_14, .ref tn_15, .int tnv16, .ref tn_17, .ref tn_18, .ref tnt]))] := hD
  generalize H1 = H at hP hS ⊢
  have hw_10 : (0 ≤ r_9.toInt ∧ r_9.toInt ≤ 1023) := hw
  have hw_11 := hw_10
  clear hw
  refine lv_iconst (v := 0) hx hb dX1_fallFrom_21 (by decide) ?_
  obtain ⟨hPc, hDc, hFc⟩ := sub3 hP hD hS hA (ws' := [(ob, .inr (1, [.ref ob_0, .int obv1, .int obv2])), (ob_0, .inl (k 0, 8, .inl o_6)), (tn, .inr (10, [.int tnv0, .int tnv1, .int tnv2, .ref tn_3, .ref tn_4, .ref tn_5, .ref tn_6, .int tnv7, .int tnv8, .ref tn_9, .ref tn_10, .int tnv11, .ref tn_12, .ref tn_13, .ref tn_14, .ref tn_15, .int tnv16, .ref tn_17, .ref tn_18, .ref tnt])), (tn_3, .inl (k 0, 10, .inl tng3)), (tn_4, .inl (k 0, 10, .inl tng4)), (tn_5, .inl (k 0, 10, .inl tng5))]) [3, 4, 5, 0, 1, 2] (by decide +kernel) rfl
  refine va_callv (va_runV (C := RX1) (As := [.ref tn, .int r_9, .int 0]) (rest := []) ⟨hx, hb, hml, hown, hts⟩ (c_X1_flow l D k ob tn r_9 0 ob_0 obv1 obv2 o_6 tnv0 tnv1 tnv2 tn_3 tn_4 tn_5 tn_6 tnv7 tnv8 tn_9 tn_10 tnv11 tn_12 tn_13 tn_14 tn_15 tnv16 tn_17 tn_18 tnt tng3 tng4 tng5 H.size hw_8 (show 0 ≤ tnv0.toInt ∧ tnv0.toInt ≤ 8 from by omega) (show 0 ≤ tnv2.toInt ∧ tnv2.toInt ≤ 10 from by omega) (show 0 ≤ tnv8.toInt ∧ tnv8.toInt ≤ 4 from by omega) (show 0 ≤ tnv11.toInt ∧ tnv11.toInt ≤ 6 from by omega) (show 0 ≤ tnv16.toInt ∧ tnv16.toInt ≤ 2 from by omega) hp_tng3_0 hp_tng4_0 hp_tng5_0) (cwV 3 hts (gV tw_3_199 tw_3_201 tw_p_20 tw_1_6 tw_3_202) rfl rfl rfl hdV_X1_flow ⟨Nat.le_of_ble_eq_true rfl, Nat.le_of_ble_eq_true rfl⟩) (cz_V hK hPc hDc hN (ci := 1) (q0 := 0) rfl rfl [.ref tn, .int r_9, .int 0]) rfl rfl hl.1 rfl (lv_room (Nat.le_of_ble_eq_true rfl)) dX1_fallFrom_22 ⟨Nat.le_of_ble_eq_true rfl, Nat.le_of_ble_eq_true rfl⟩) hS (fun q _ h => hFc q h) hFc (fun uZ tZ H1 locs ht hvm hw hB hz1 hk1 hS => ?_)
  obtain ⟨o_13, o_14, o_15⟩ := uZ
  obtain ⟨hP1, hK1, hD1⟩ := hB
  rw [ht] at hP1
  obtain ⟨hP, hD⟩ := va_join (wr := []) (w1 := [(ob, .inr (1, [.ref ob_0, .int o_13, .int o_14])), (ob_0, .inl (k 0, 8, .inl o_15)), (tn, .inr (10, [.int tnv0, .int tnv1, .int tnv2, .ref tn_3, .ref tn_4, .ref tn_5, .ref tn_6, .int tnv7, .int tnv8, .ref tn_9, .ref tn_10, .int tnv11, .ref tn_12, .ref tn_13, .ref tn_14, .ref tn_15, .int tnv16, .ref tn_17, .ref tn_18, .ref tnt])), (tn_3, .inl (k 0, 10, .inl tng3)), (tn_4, .inl (k 0, 10, .inl tng4)), (tn_5, .inl (k 0, 10, .inl tng5))]) hP hD [3, 4, 5, 0, 1, 2] [] rfl rfl (by decide +kernel) (by decide +kernel) hk1 hFc hP1 hD1
  clear hK1 hP1 hD1 hPc hDc hFc
  clear hk1 hz1 ht hvm
  have hP : va_P D vwCl [(ob, .inr (1, [.ref ob_0, .int o_13, .int o_14])), (ob_0, .inl (k 0, 8, .inl o_15)), (tn, .inr (10, [.int tnv0, .int tnv1, .int tnv2, .ref tn_3, .ref tn_4, .ref tn_5, .ref tn_6, .int tnv7, .int tnv8, .ref tn_9, .ref tn_10, .int tnv11, .ref tn_12, .ref tn_13, .ref tn_14, .ref tn_15, .int tnv16, .ref tn_17, .ref tn_18, .ref tnt])), (tn_3, .inl (k 0, 10, .inl tng3)), (tn_4, .inl (k 0, 10, .inl tng4)), (tn_5, .inl (k 0, 10, .inl tng5))] H1 := hP
  have hD : va_D A [(ob, .inr (1, [.ref ob_0, .int o_13, .int o_14])), (ob_0, .inl (k 0, 8, .inl o_15)), (tn, .inr (10, [.int tnv0, .int tnv1, .int tnv2, .ref tn_3, .ref tn_4, .ref tn_5, .ref tn_6, .int tnv7, .int tnv8, .ref tn_9, .ref tn_10, .int tnv11, .ref tn_12, .ref tn_13, .ref tn_14, .ref tn_15, .int tnv16, .ref tn_17, .ref tn_18, .ref tnt])), (tn_3, .inl (k 0, 10, .inl tng3)), (tn_4, .inl (k 0, 10, .inl tng4)), (tn_5, .inl (k 0, 10, .inl tng5))] := hD
  generalize H1 = H at hP hS ⊢
  have hw_16 : (PR 8 1 0 0 1000000 o_15) := hw
  have hw_17 := hw_16
  clear hw
  obtain ⟨hP9, hD9⟩ := sub2 hP hD (ws' := [(ob, .inr (1, [.ref ob_0, .int o_13, .int o_14])), (ob_0, .inl (k 0, 8, .inl o_15)), (tn, .inr (10, [.int tnv0, .int tnv1, .int tnv2, .ref tn_3, .ref tn_4, .ref tn_5, .ref tn_6, .int tnv7, .int tnv8, .ref tn_9, .ref tn_10, .int tnv11, .ref tn_12, .ref tn_13, .ref tn_14, .ref tn_15, .int tnv16, .ref tn_17, .ref tn_18, .ref tnt])), (tn_3, .inl (k 0, 10, .inl tng3)), (tn_4, .inl (k 0, 10, .inl tng4)), (tn_5, .inl (k 0, 10, .inl tng5))]) [0, 1, 2, 3, 4, 5] (by decide +kernel) rfl
  exact W.vret hx hb hr (fun tZ ht hW => ⟨⟨(o_13, o_14, o_15), rfl, hw_17, by rw [ht]; exact hP9, va_K.moved hW.alike hK, hD9⟩, hS.F ht⟩) hS.2.2 dX1_fallFrom_25
set_option maxHeartbeats 4000000 in
set_option maxRecDepth 100000 in
theorem c_X1_fallAt (l : Launch) (D : va_G) (k : Nat → ClassId) (ob : Nat) (tn : Nat) (p1 : Int32) (ob_0 : Nat) (obv1 : Int32) (obv2 : Int32) (obg0 : Nat → Int32) (tnv0 : Int32) (tnv1 : Int32) (tnv2 : Int32) (tn_3 : Nat) (tn_4 : Nat) (tn_5 : Nat) (tn_6 : Nat) (tnv7 : Int32) (tnv8 : Int32) (tn_9 : Nat) (tn_10 : Nat) (tnv11 : Int32) (tn_12 : Nat) (tn_13 : Nat) (tn_14 : Nat) (tn_15 : Nat) (tnv16 : Int32) (tn_17 : Nat) (tn_18 : Nat) (tnt : Nat) (tng3 : Nat → Int32) (tng4 : Nat → Int32) (tng5 : Nat → Int32) (sz : Nat) (hp_obg0_0 : PR 8 1 0 0 1000000 obg0) (h_tnv0 : 0 ≤ tnv0.toInt ∧ tnv0.toInt ≤ 8) (h_tnv2 : 0 ≤ tnv2.toInt ∧ tnv2.toInt ≤ 10) (h_tnv8 : 0 ≤ tnv8.toInt ∧ tnv8.toInt ≤ 4) (h_tnv11 : 0 ≤ tnv11.toInt ∧ tnv11.toInt ≤ 6) (h_tnv16 : 0 ≤ tnv16.toInt ∧ tnv16.toInt ≤ 2) (hp_tng3_0 : PR 10 1 0 0 7 tng3) (hp_tng4_0 : PR 10 1 0 0 7 tng4) (hp_tng5_0 : PR 10 1 0 0 60 tng5) : Met l yX1_fallAt (ww yX1_fallAt cX1_fallAt 4 none) ({ frames := 2, cells := 0, slots := 0, locals := 51 }) (Pre0 D k [(ob, .inr (1, [.ref ob_0, .int obv1, .int obv2])), (ob_0, .inl (k 0, 8, .inl obg0)), (tn, .inr (10, [.int tnv0, .int tnv1, .int tnv2, .ref tn_3, .ref tn_4, .ref tn_5, .ref tn_6, .int tnv7, .int tnv8, .ref tn_9, .ref tn_10, .int tnv11, .ref tn_12, .ref tn_13, .ref tn_14, .ref tn_15, .int tnv16, .ref tn_17, .ref tn_18, .ref tnt])), (tn_3, .inl (k 0, 10, .inl tng3)), (tn_4, .inl (k 0, 10, .inl tng4)), (tn_5, .inl (k 0, 10, .inl tng5))] sz [.ref ob, .ref tn, .int p1]) (va_Qv (fun (u : Int32 × Int32 × (Nat → Int32)) => match u with | (obv1z, obv2z, obg0z) => (PR 8 1 0 0 1000000 obg0z)) (fun (u : Int32 × Int32 × (Nat → Int32)) tZ => match u with | (obv1z, obv2z, obg0z) => Bw D k (va_A [(ob, .inr (1, [.ref ob_0, .int obv1, .int obv2])), (ob_0, .inl (k 0, 8, .inl obg0)), (tn, .inr (10, [.int tnv0, .int tnv1, .int tnv2, .ref tn_3, .ref tn_4, .ref tn_5, .ref tn_6, .int tnv7, .int tnv8, .ref tn_9, .ref tn_10, .int tnv11, .ref tn_12, .ref tn_13, .ref tn_14, .ref tn_15, .int tnv16, .ref tn_17, .ref tn_18, .ref tnt])), (tn_3, .inl (k 0, 10, .inl tng3)), (tn_4, .inl (k 0, 10, .inl tng4)), (tn_5, .inl (k 0, 10, .inl tng5))] sz) [(ob, .inr (1, [.ref ob_0, .int obv1z, .int obv2z])), (ob_0, .inl (k 0, 8, .inl obg0z)), (tn, .inr (10, [.int tnv0, .int tnv1, .int tnv2, .ref tn_3, .ref tn_4, .ref tn_5, .ref tn_6, .int tnv7, .int tnv8, .ref tn_9, .ref tn_10, .int tnv11, .ref tn_12, .ref tn_13, .ref tn_14, .ref tn_15, .int tnv16, .ref tn_17, .ref tn_18, .ref tnt])), (tn_3, .inl (k 0, 10, .inl tng3)), (tn_4, .inl (k 0, 10, .inl tng4)), (tn_5, .inl (k 0, 10, .inl tng5))] tZ) (va_A [(ob, .inr (1, [.ref ob_0, .int obv1, .int obv2])), (ob_0, .inl (k 0, 8, .inl obg0)), (tn, .inr (10, [.int tnv0, .int tnv1, .int tnv2, .ref tn_3, .ref tn_4, .ref tn_5, .ref tn_6, .int tnv7, .int tnv8, .ref tn_9, .ref tn_10, .int tnv11, .ref tn_12, .ref tn_13, .ref tn_14, .ref tn_15, .int tnv16, .ref tn_17, .ref tn_18, .ref tnt])), (tn_3, .inl (k 0, 10, .inl tng3)), (tn_4, .inl (k 0, 10, .inl tng4)), (tn_5, .inl (k 0, 10, .inl tng5))] sz)) 0 0 (va_A [(ob, .inr (1, [.ref ob_0, .int obv1, .int obv2])), (ob_0, .inl (k 0, 8, .inl obg0)), (tn, .inr (10, [.int tnv0, .int tnv1, .int tnv2, .ref tn_3, .ref tn_4, .ref tn_5, .ref tn_6, .int tnv7, .int tnv8, .ref tn_9, .ref tn_10, .int tnv11, .ref tn_12, .ref tn_13, .ref tn_14, .ref tn_15, .int tnv16, .ref tn_17, .ref tn_18, .ref tnt])), (tn_3, .inl (k 0, 10, .inl tng3)), (tn_4, .inl (k 0, 10, .inl tng4)), (tn_5, .inl (k 0, 10, .inl tng5))] sz) := by
  refine Met.ofW (cc := cX1_fallAt) (maxL := 4) (ret := none) (by decide +kernel) rfl ?_
  intro p e s m args below meth c s₁ B hml hv
  obtain ⟨rfl, hsz, hP, hK, hD0, hN⟩ := hv
  have hx := B.exec
  have hb := B.bytes
  have hr := B.returns
  have hts : ∀ w ∈ TT, w.before _ s = true := fun w h => atoms_spec (ws := ww yX1_fallAt cX1_fallAt 4 none) B.pre w (List.mem_cons_of_mem _ h)
  have hown : s.vm.findClass RX1 = some m.cls := findClass_of_methodNamed B.named
  have hlocks := B.notSynchronized
  subst hsz
  have hD := hD0.self (sz := s.heap.size)
  generalize hAe : va_A [(ob, .inr (1, [.ref ob_0, .int obv1, .int obv2])), (ob_0, .inl (k 0, 8, .inl obg0)), (tn, .inr (10, [.int tnv0, .int tnv1, .int tnv2, .ref tn_3, .ref tn_4, .ref tn_5, .ref tn_6, .int tnv7, .int tnv8, .ref tn_9, .ref tn_10, .int tnv11, .ref tn_12, .ref tn_13, .ref tn_14, .ref tn_15, .int tnv16, .ref tn_17, .ref tn_18, .ref tnt])), (tn_3, .inl (k 0, 10, .inl tng3)), (tn_4, .inl (k 0, 10, .inl tng4)), (tn_5, .inl (k 0, 10, .inl tng5))] s.heap.size = A at hD ⊢
  have hA : ∀ q : Nat, s.heap.size ≤ q → A q := fun q h => by rw [← hAe]; exact Or.inr h
  have hS : va_S A s.heap s.heap [] := va_S.rf
  have hl := lv_entry ([.ref ob, .ref tn, .int p1]) (n := 4) (Nat.le_of_ble_eq_true rfl)
  rw [lg_entry_eq]
  generalize (lg_sl ([.ref ob, .ref tn, .int p1]) ++ List.replicate (4 - (lg_sl ([.ref ob, .ref tn, .int p1])).length) Slot.unset).toArray = ls at hl ⊢
  have hl : lv_has ls 4 [(0, .ref ob), (1, .ref tn), (2, .int p1)] := hl
  refine lv_aload_n hx hb dX1_fallAt_0 rfl (lv_at hl 0 rfl) ?_
  refine va_get (D := D) (ci := 1) (v := .ref ob_0) (C := RX1) (T := TX1) (N := 3) hx hb hts iT_X1 hown hK hP 0 rfl rfl 0 (by decide) (hts _ tw_2_17) (fun _ h9 => h9) rfl dX1_fallAt_1 ?_
  refine lv_ldc (v := 1000000) hx hb hown (hts _ tw_3_191) dX1_fallAt_4 ?_
  obtain ⟨hPc, hDc, hFc⟩ := sub3 hP hD hS hA (ws' := [(ob_0, .inl (k 0, 8, .inl obg0))]) [1] (by decide +kernel) rfl
  refine va_callv (va_runS (As := [.ref ob_0, .int 1000000]) (rest := []) ⟨hx, hb, hml, hown, hts⟩ (c_J7_fill_53178_0 l D k ob_0 obg0 s.heap.size) (va_cwS 2 hts (gS tw_3_192 tw_3_193 tw_1_19 tw_3_194) rfl rfl rfl hdS_J7_fill_53178 ⟨Nat.le_of_ble_eq_true rfl, Nat.le_of_ble_eq_true rfl⟩) (cz_S hK hPc hDc hN [.ref ob_0, .int 1000000]) rfl rfl hl.1 rfl (lv_room (Nat.le_of_ble_eq_true rfl)) dX1_fallAt_6 ⟨Nat.le_of_ble_eq_true rfl, Nat.le_of_ble_eq_true rfl⟩) hS (fun q _ h => hFc q h) hFc (fun uZ tZ H1 locs ht hvm hw hB hz1 hk1 hS => ?_)
  obtain ⟨o_2, rfl⟩ : ∃ z, z = uZ := ⟨_, rfl⟩
  obtain ⟨hP1, hK1, hD1⟩ := hB
  rw [ht] at hP1
  obtain ⟨hP, hD⟩ := va_join (wr := [(ob, .inr (1, [.ref ob_0, .int obv1, .int obv2])), (tn, .inr (10, [.int tnv0, .int tnv1, .int tnv2, .ref tn_3, .ref tn_4, .ref tn_5, .ref tn_6, .int tnv7, .int tnv8, .ref tn_9, .ref tn_10, .int tnv11, .ref tn_12, .ref tn_13, .ref tn_14, .ref tn_15, .int tnv16, .ref tn_17, .ref tn_18, .ref tnt])), (tn_3, .inl (k 0, 10, .inl tng3)), (tn_4, .inl (k 0, 10, .inl tng4)), (tn_5, .inl (k 0, 10, .inl tng5))]) (w1 := [(ob_0, .inl (k 0, 8, .inl o_2))]) hP hD [1] [0, 2, 3, 4, 5] rfl rfl (by decide +kernel) (by decide +kernel) hk1 hFc hP1 hD1
  clear hK1 hP1 hD1 hPc hDc hFc
  clear hk1 hz1 ht hvm
  have hP : va_P D vwCl [(ob, .inr (1, [.ref ob_0, .int obv1, .int obv2])), (tn, .inr (10, [.int tnv0, .int tnv1, .int tnv2, .ref tn_3, .ref tn_4, .ref tn_5, .ref tn_6, .int tnv7, .int tnv8, .ref tn_9, .ref tn_10, .int tnv11, .ref tn_12, .ref tn_13, .ref tn_14, .ref tn_15, .int tnv16, .ref tn_17, .ref tn_18, .ref tnt])), (tn_3, .inl (k 0, 10, .inl tng3)), (tn_4, .inl (k 0, 10, .inl tng4)), (tn_5, .inl (k 0, 10, .inl tng5)), (ob_0, .inl (k 0, 8, .inl o_2))] H1 := hP
  have hD : va_D A [(ob, .inr (1, [.ref ob_0, .int obv1, .int obv2])), (tn, .inr (10, [.int tnv0, .int tnv1, .int tnv2, .ref tn_3, .ref tn_4, .ref tn_5, .ref tn_6, .int tnv7, .int tnv8, .ref tn_9, .ref tn_10, .int tnv11, .ref tn_12, .ref tn_13, .ref tn_14, .ref tn_15, .int tnv16, .ref tn_17, .ref tn_18, .ref tnt])), (tn_3, .inl (k 0, 10, .inl tng3)), (tn_4, .inl (k 0, 10, .inl tng4)), (tn_5, .inl (k 0, 10, .inl tng5)), (ob_0, .inl (k 0, 8, .inl o_2))] := hD
  generalize H1 = H at hP hS ⊢
  have hw_3 : (PR 8 1 0 0 1000000 o_2) := hw
  have hw_4 := hw_3
  clear hw
  refine lv_iconst (v := 0) hx hb dX1_fallAt_9 (by decide) ?_
  refine lv_istore_n (lv' := [(3, .int 0), (0, .ref ob), (1, .ref tn), (2, .int p1)]) hx hb dX1_fallAt_10 rfl hl (by decide) rfl (fun ls hl => ?_)
  refine loop_r (Wg := fun H locs ls => W p l e _ s m _ below meth c H locs _ _ _ (F0 m 11 ls [])) (fun n9 H locs ls => ∃ (L11l3 : Int32) (L11a5 : Nat → Int32), n9 = (8 - L11l3.toInt).toNat ∧ (0 ≤ L11l3.toInt ∧ L11l3.toInt ≤ 8) ∧ (PR 8 1 0 0 1000000 L11a5) ∧ va_P D vwCl [(ob, .inr (1, [.ref ob_0, .int obv1, .int obv2])), (tn, .inr (10, [.int tnv0, .int tnv1, .int tnv2, .ref tn_3, .ref tn_4, .ref tn_5, .ref tn_6, .int tnv7, .int tnv8, .ref tn_9, .ref tn_10, .int tnv11, .ref tn_12, .ref tn_13, .ref tn_14, .ref tn_15, .int tnv16, .ref tn_17, .ref tn_18, .ref tnt])), (tn_3, .inl (k 0, 10, .inl tng3)), (tn_4, .inl (k 0, 10, .inl tng4)), (tn_5, .inl (k 0, 10, .inl tng5)), (ob_0, .inl (k 0, 8, .inl L11a5))] H ∧ va_D A [(ob, .inr (1, [.ref ob_0, .int obv1, .int obv2])), (tn, .inr (10, [.int tnv0, .int tnv1, .int tnv2, .ref tn_3, .ref tn_4, .ref tn_5, .ref tn_6, .int tnv7, .int tnv8, .ref tn_9, .ref tn_10, .int tnv11, .ref tn_12, .ref tn_13, .ref tn_14, .ref tn_15, .int tnv16, .ref tn_17, .ref tn_18, .ref tnt])), (tn_3, .inl (k 0, 10, .inl tng3)), (tn_4, .inl (k 0, 10, .inl tng4)), (tn_5, .inl (k 0, 10, .inl tng5)), (ob_0, .inl (k 0, 8, .inl L11a5))] ∧ va_S A s.heap H locs ∧ lv_has ls 4 [(0, .ref ob), (1, .ref tn), (2, .int p1), (3, .int L11l3)]) (fun n9 H locs ls hI ih_5 => ?_) _ _ _ _ ⟨0, o_2, rfl, (show 0 ≤ 0 ∧ 0 ≤ 8 from by omega), hw_4, hP.sub (ws' := [(ob, .inr (1, [.ref ob_0, .int obv1, .int obv2])), (tn, .inr (10, [.int tnv0, .int tnv1, .int tnv2, .ref tn_3, .ref tn_4, .ref tn_5, .ref tn_6, .int tnv7, .int tnv8, .ref tn_9, .ref tn_10, .int tnv11, .ref tn_12, .ref tn_13, .ref tn_14, .ref tn_15, .int tnv16, .ref tn_17, .ref tn_18, .ref tnt])), (tn_3, .inl (k 0, 10, .inl tng3)), (tn_4, .inl (k 0, 10, .inl tng4)), (tn_5, .inl (k 0, 10, .inl tng5)), (ob_0, .inl (k 0, 8, .inl o_2))]) [0, 1, 2, 3, 4, 5] rfl, hD.sub (ws' := [(ob, .inr (1, [.ref ob_0, .int obv1, .int obv2])), (tn, .inr (10, [.int tnv0, .int tnv1, .int tnv2, .ref tn_3, .ref tn_4, .ref tn_5, .ref tn_6, .int tnv7, .int tnv8, .ref tn_9, .ref tn_10, .int tnv11, .ref tn_12, .ref tn_13, .ref tn_14, .ref tn_15, .int tnv16, .ref tn_17, .ref tn_18, .ref tnt])), (tn_3, .inl (k 0, 10, .inl tng3)), (tn_4, .inl (k 0, 10, .inl tng4)), (tn_5, .inl (k 0, 10, .inl tng5)), (ob_0, .inl (k 0, 8, .inl o_2))]) [0, 1, 2, 3, 4, 5] (by decide +kernel) rfl, hS, lv_sub hl [1, 2, 3, 0] rfl⟩
  clear hP hD hS hl
  obtain ⟨L11l3, L11a5, en_6, zL11l3, L11a5h0, hP, hD, hS, hl⟩ := hI
  refine lv_iload_n hx hb dX1_fallAt_11 rfl (lv_at hl 3 rfl) ?_
  refine lv_aload_n hx hb dX1_fallAt_12 rfl (lv_at hl 1 rfl) ?_
  refine va_get (D := D) (ci := 10) (v := .int tnv0) (C := RX10) (T := TX10) (N := 20) hx hb hts iT_X10 hown hK hP 1 rfl rfl 0 (by decide) (hts _ tw_1_70) (fun _ h9 => h9) rfl dX1_fallAt_13 ?_
  refine lv_icmp_ge (tgt := 40) hx hb dX1_fallAt_16 (by decide) (fun h_7 => ?_) (fun h_7 => ?_)
  · skip
    have zh_7 : tnv0.toInt ≤ L11l3.toInt := z_le h_7
    refine lv_aload_n hx hb dX1_fallAt_40 rfl (lv_at hl 0 rfl) ?_
    refine lv_aload_n hx hb dX1_fallAt_41 rfl (lv_at hl 1 rfl) ?_
    refine lv_aload_n hx hb dX1_fallAt_42 rfl (lv_at hl 1 rfl) ?_
    obtain ⟨hPc, hDc, hFc⟩ := sub3 hP hD hS hA (ws' := [(tn, .inr (10, [.int tnv0, .int tnv1, .int tnv2, .ref tn_3, .ref tn_4, .ref tn_5, .ref tn_6, .int tnv7, .int tnv8, .ref tn_9, .ref tn_10, .int tnv11, .ref tn_12, .ref tn_13, .ref tn_14, .ref tn_15, .int tnv16, .ref tn_17, .ref tn_18, .ref tnt]))]) [1] (by decide +kernel) rfl
    refine va_calli (va_runV (C := RX10) (As := []) (rest := [.ref tn, .ref ob]) ⟨hx, hb, hml, hown, hts⟩ (c_X10_openLanes l D k tn tnv0 tnv1 tnv2 tn_3 tn_4 tn_5 tn_6 tnv7 tnv8 tn_9 tn_10 tnv11 tn_12 tn_13 tn_14 tn_15 tnv16 tn_17 tn_18 tnt H.size (show 0 ≤ tnv0.toInt ∧ tnv0.toInt ≤ 8 from by omega) (show 0 ≤ tnv2.toInt ∧ tnv2.toInt ≤ 10 from by omega) (show 0 ≤ tnv8.toInt ∧ tnv8.toInt ≤ 4 from by omega) (show 0 ≤ tnv11.toInt ∧ tnv11.toInt ≤ 6 from by omega) (show 0 ≤ tnv16.toInt ∧ tnv16.toInt ≤ 2 from by omega)) (cwV 0 hts (gV tw_3_179 tw_3_180 tw_3_181 tw_1_3 tw_3_182) rfl rfl rfl hdV_X10_openLanes ⟨Nat.le_of_ble_eq_true rfl, Nat.le_of_ble_eq_true rfl⟩) (cz_V hK hPc hDc hN (ci := 10) (q0 := 0) rfl rfl []) rfl rfl hl.1 rfl (lv_room (Nat.le_of_ble_eq_true rfl)) dX1_fallAt_43 ⟨Nat.le_of_ble_eq_true rfl, Nat.le_of_ble_eq_true rfl⟩) hS (fun q _ h => hFc q h) hFc (fun r_8 uZ tZ H1 locs ht hvm hw hB hz1 hk1 hS => ?_)
    obtain ⟨hP1, hK1, hD1⟩ := hB
    rw [ht] at hP1
    obtain ⟨hP, hD⟩ := va_join (wr := [(ob, .inr (1, [.ref ob_0, .int obv1, .int obv2])), (tn_3, .inl (k 0, 10, .inl tng3)), (tn_4, .inl (k 0, 10, .inl tng4)), (tn_5, .inl (k 0, 10, .inl tng5)), (ob_0, .inl (k 0, 8, .inl L11a5))]) (w1 := [(tn, .inr (10, [.int tnv0, .int tnv1, .int tnv2, .ref tn_3, .ref tn_4, .ref tn_5, .ref tn_6, .int tnv7, .int tnv8, .ref tn_9, .ref tn_10, .int tnv11, .ref tn_12, .ref tn_13, .ref tn_14, .ref tn_15, .int tnv16, .ref tn_17, .ref tn_18, .ref tnt]))]) hP hD [1] [0, 2, 3, 4, 5] rfl rfl (by decide +kernel) (by decide +kernel) hk1 hFc hP1 hD1
    clear hK1 hP1 hD1 hPc hDc hFc
    clear hk1 hz1 ht hvm
    have hP : va_P D vwCl [(ob, .inr (1, [.ref ob_0, .int obv1, .int obv2])), (tn_3, .inl (k 0, 10, .inl tng3)), (tn_4, .inl (k 0, 10, .inl tng4)), (tn_5, .inl (k 0, 10, .inl tng5)), (ob_0, .inl (k 0, 8, .inl L11a5)), (tn, .inr (10, [.int tnv0, .int tnv1, .int tnv2, .ref tn_3, .ref tn_4, .ref tn_5, .ref tn_6, .int tnv7, .int tnv8, .ref tn_9, .ref tn_10, .int tnv11, .ref tn_12, .ref tn_13, .ref tn_14, .ref tn_15, .int tnv16, .ref tn_17, .ref tn_18, .ref tnt]))] H1 := hP
    have hD : va_D A [(ob, .inr (1, [.ref ob_0, .int obv1, .int obv2])), (tn_3, .inl (k 0, 10, .inl tng3)), (tn_4, .inl (k 0, 10, .inl tng4)), (tn_5, .inl (k 0, 10, .inl tng5)), (ob_0, .inl (k 0, 8, .inl L11a5)), (tn, .inr (10, [.int tnv0, .int tnv1, .int tnv2, .ref tn_3, .ref tn_4, .ref tn_5, .ref tn_6, .int tnv7, .int tnv8, .ref tn_9, .ref tn_10, .int tnv11, .ref tn_12, .ref tn_13, .ref tn_14, .ref tn_15, .int tnv16, .ref tn_17, .ref tn_18, .ref tnt]))] := hD
    generalize H1 = H at hP hS ⊢
    have hw_9 : (0 ≤ r_8.toInt ∧ r_8.toInt ≤ 1023) := hw
    have hw_10 := hw_9
    clear hw
    refine lv_iconst (v := 0) hx hb dX1_fallAt_46 (by decide) ?_
    obtain ⟨hPc, hDc, hFc⟩ := sub3 hP hD hS hA (ws' := [(ob, .inr (1, [.ref ob_0, .int obv1, .int obv2])), (ob_0, .inl (k 0, 8, .inl L11a5)), (tn, .inr (10, [.int tnv0, .int tnv1, .int tnv2, .ref tn_3, .ref tn_4, .ref tn_5, .ref tn_6, .int tnv7, .int tnv8, .ref tn_9, .ref tn_10, .int tnv11, .ref tn_12, .ref tn_13, .ref tn_14, .ref tn_15, .int tnv16, .ref tn_17, .ref tn_18, .ref tnt])), (tn_3, .inl (k 0, 10, .inl tng3)), (tn_4, .inl (k 0, 10, .inl tng4)), (tn_5, .inl (k 0, 10, .inl tng5))]) [0, 4, 5, 1, 2, 3] (by decide +kernel) rfl
    refine va_callv (va_runV (C := RX1) (As := [.ref tn, .int r_8, .int 0]) (rest := []) ⟨hx, hb, hml, hown, hts⟩ (c_X1_flow l D k ob tn r_8 0 ob_0 obv1 obv2 L11a5 tnv0 tnv1 tnv2 tn_3 tn_4 tn_5 tn_6 tnv7 tnv8 tn_9 tn_10 tnv11 tn_12 tn_13 tn_14 tn_15 tnv16 tn_17 tn_18 tnt tng3 tng4 tng5 H.size L11a5h0 (show 0 ≤ tnv0.toInt ∧ tnv0.toInt ≤ 8 from by omega) (show 0 ≤ tnv2.toInt ∧ tnv2.toInt ≤ 10 from by omega) (show 0 ≤ tnv8.toInt ∧ tnv8.toInt ≤ 4 from by omega) (show 0 ≤ tnv11.toInt ∧ tnv11.toInt ≤ 6 from by omega) (show 0 ≤ tnv16.toInt ∧ tnv16.toInt ≤ 2 from by omega) hp_tng3_0 hp_tng4_0 hp_tng5_0) (cwV 3 hts (gV tw_3_199 tw_3_201 tw_p_20 tw_1_6 tw_3_202) rfl rfl rfl hdV_X1_flow ⟨Nat.le_of_ble_eq_true rfl, Nat.le_of_ble_eq_true rfl⟩) (cz_V hK hPc hDc hN (ci := 1) (q0 := 0) rfl rfl [.ref tn, .int r_8, .int 0]) rfl rfl hl.1 rfl (lv_room (Nat.le_of_ble_eq_true rfl)) dX1_fallAt_47 ⟨Nat.le_of_ble_eq_true rfl, Nat.le_of_ble_eq_true rfl⟩) hS (fun q _ h => hFc q h) hFc (fun uZ tZ H1 locs ht hvm hw hB hz1 hk1 hS => ?_)
    obtain ⟨o_12, o_13, o_14⟩ := uZ
    obtain ⟨hP1, hK1, hD1⟩ := hB
    rw [ht] at hP1
    obtain ⟨hP, hD⟩ := va_join (wr := []) (w1 := [(ob, .inr (1, [.ref ob_0, .int o_12, .int o_13])), (ob_0, .inl (k 0, 8, .inl o_14)), (tn, .inr (10, [.int tnv0, .int tnv1, .int tnv2, .ref tn_3, .ref tn_4, .ref tn_5, .ref tn_6, .int tnv7, .int tnv8, .ref tn_9, .ref tn_10, .int tnv11, .ref tn_12, .ref tn_13, .ref tn_14, .ref tn_15, .int tnv16, .ref tn_17, .ref tn_18, .ref tnt])), (tn_3, .inl (k 0, 10, .inl tng3)), (tn_4, .inl (k 0, 10, .inl tng4)), (tn_5, .inl (k 0, 10, .inl tng5))]) hP hD [0, 4, 5, 1, 2, 3] [] rfl rfl (by decide +kernel) (by decide +kernel) hk1 hFc hP1 hD1
    clear hK1 hP1 hD1 hPc hDc hFc
    clear hk1 hz1 ht hvm
    have hP : va_P D vwCl [(ob, .inr (1, [.ref ob_0, .int o_12, .int o_13])), (ob_0, .inl (k 0, 8, .inl o_14)), (tn, .inr (10, [.int tnv0, .int tnv1, .int tnv2, .ref tn_3, .ref tn_4, .ref tn_5, .ref tn_6, .int tnv7, .int tnv8, .ref tn_9, .ref tn_10, .int tnv11, .ref tn_12, .ref tn_13, .ref tn_14, .ref tn_15, .int tnv16, .ref tn_17, .ref tn_18, .ref tnt])), (tn_3, .inl (k 0, 10, .inl tng3)), (tn_4, .inl (k 0, 10, .inl tng4)), (tn_5, .inl (k 0, 10, .inl tng5))] H1 := hP
    have hD : va_D A [(ob, .inr (1, [.ref ob_0, .int o_12, .int o_13])), (ob_0, .inl (k 0, 8, .inl o_14)), (tn, .inr (10, [.int tnv0, .int tnv1, .int tnv2, .ref tn_3, .ref tn_4, .ref tn_5, .ref tn_6, .int tnv7, .int tnv8, .ref tn_9, .ref tn_10, .int tnv11, .ref tn_12, .ref tn_13, .ref tn_14, .ref tn_15, .int tnv16, .ref tn_17, .ref tn_18, .ref tnt])), (tn_3, .inl (k 0, 10, .inl tng3)), (tn_4, .inl (k 0, 10, .inl tng4)), (tn_5, .inl (k 0, 10, .inl tng5))] := hD
    generalize H1 = H at hP hS ⊢
    have hw_15 : (PR 8 1 0 0 1000000 o_14) := hw
    have hw_16 := hw_15
    clear hw
    obtain ⟨hP9, hD9⟩ := sub2 hP hD (ws' := [(ob, .inr (1, [.ref ob_0, .int o_12, .int o_13])), (ob_0, .inl (k 0, 8, .inl o_14)), (tn, .inr (10, [.int tnv0, .int tnv1, .int tnv2, .ref tn_3, .ref tn_4, .ref tn_5, .ref tn_6, .int tnv7, .int tnv8, .ref tn_9, .ref tn_10, .int tnv11, .ref tn_12, .ref tn_13, .ref tn_14, .ref tn_15, .int tnv16, .ref tn_17, .ref tn_18, .ref tnt])), (tn_3, .inl (k 0, 10, .inl tng3)), (tn_4, .inl (k 0, 10, .inl tng4)), (tn_5, .inl (k 0, 10, .inl tng5))]) [0, 1, 2, 3, 4, 5] (by decide +kernel) rfl
    exact W.vret hx hb hr (fun tZ ht hW => ⟨⟨(o_12, o_13, o_14), rfl, hw_16, by rw [ht]; exact hP9, va_K.moved hW.alike hK, hD9⟩, hS.F ht⟩) hS.2.2 dX1_fallAt_50
  · skip
    have zh_7 : L11l3.toInt < tnv0.toInt := z_nle h_7
    refine lv_iload_n hx hb dX1_fallAt_19 rfl (lv_at hl 2 rfl) ?_
    refine lv_iload_n hx hb dX1_fallAt_20 rfl (lv_at hl 3 rfl) ?_
    refine lv_ishr hx hb dX1_fallAt_21 ?_
    refine lv_topi (fun x_17 ex_17 => ?_)
    have zrp1 := z_rng p1
    refine lv_iconst (v := 1) hx hb dX1_fallAt_22 (by decide) ?_
    refine lv_iand hx hb dX1_fallAt_23 ?_
    refine lv_topi (fun x_18 ex_18 => ?_)
    have zrx_17 := z_rng x_17
    have zx_18 : 0 ≤ x_18.toInt ∧ x_18.toInt < 2 := by rw [ex_18]; exact z_and _ 1 2 rfl rfl (by decide)
    refine lv_iconst (v := 1) hx hb dX1_fallAt_24 (by decide) ?_
    refine lv_icmp_ne (tgt := 34) hx hb dX1_fallAt_25 (by decide) (fun h_19 => ?_) (fun h_19 => ?_)
    · skip
      have zh_19 : ¬ x_18.toInt = 1 := z_ne h_19
      obtain ⟨x_20, ex_20⟩ : ∃ y : Int32, y = L11l3 + 1 := ⟨_, rfl⟩
      have zx_20 : x_20.toInt = L11l3.toInt + 1 := by rw [ex_20]; exact z_add rfl rfl (by omega) (by omega)
      refine lv_iinc (v := x_20) (lv' := [(3, .int x_20), (0, .ref ob), (1, .ref tn), (2, .int p1)]) hx hb dX1_fallAt_34 hl (k := 3) rfl (by rw [ex_20]; rfl) (by decide) rfl (fun ls hl => ?_)
      refine lv_goto (tgt := 11) hx hb dX1_fallAt_37 (by decide) ?_
      exact ih_5 _ _ _ _ (by omega) ⟨x_20, L11a5, rfl, (show 0 ≤ x_20.toInt ∧ x_20.toInt ≤ 8 from by omega), L11a5h0, hP.sub (ws' := [(ob, .inr (1, [.ref ob_0, .int obv1, .int obv2])), (tn, .inr (10, [.int tnv0, .int tnv1, .int tnv2, .ref tn_3, .ref tn_4, .ref tn_5, .ref tn_6, .int tnv7, .int tnv8, .ref tn_9, .ref tn_10, .int tnv11, .ref tn_12, .ref tn_13, .ref tn_14, .ref tn_15, .int tnv16, .ref tn_17, .ref tn_18, .ref tnt])), (tn_3, .inl (k 0, 10, .inl tng3)), (tn_4, .inl (k 0, 10, .inl tng4)), (tn_5, .inl (k 0, 10, .inl tng5)), (ob_0, .inl (k 0, 8, .inl L11a5))]) [0, 1, 2, 3, 4, 5] rfl, hD.sub (ws' := [(ob, .inr (1, [.ref ob_0, .int obv1, .int obv2])), (tn, .inr (10, [.int tnv0, .int tnv1, .int tnv2, .ref tn_3, .ref tn_4, .ref tn_5, .ref tn_6, .int tnv7, .int tnv8, .ref tn_9, .ref tn_10, .int tnv11, .ref tn_12, .ref tn_13, .ref tn_14, .ref tn_15, .int tnv16, .ref tn_17, .ref tn_18, .ref tnt])), (tn_3, .inl (k 0, 10, .inl tng3)), (tn_4, .inl (k 0, 10, .inl tng4)), (tn_5, .inl (k 0, 10, .inl tng5)), (ob_0, .inl (k 0, 8, .inl L11a5))]) [0, 1, 2, 3, 4, 5] (by decide +kernel) rfl, hS, lv_sub hl [1, 2, 3, 0] rfl⟩
    · skip
      have zh_19 : x_18.toInt = 1 := z_eq h_19
      refine lv_aload_n hx hb dX1_fallAt_28 rfl (lv_at hl 0 rfl) ?_
      refine lv_iload_n hx hb dX1_fallAt_29 rfl (lv_at hl 3 rfl) ?_
      refine lv_iconst (v := 0) hx hb dX1_fallAt_30 (by decide) ?_
      obtain ⟨hPc, hDc, hFc⟩ := sub3 hP hD hS hA (ws' := [(ob, .inr (1, [.ref ob_0, .int obv1, .int obv2])), (ob_0, .inl (k 0, 8, .inl L11a5))]) [0, 5] (by decide +kernel) rfl
      refine va_callv (va_runV (C := RX1) (As := [.int L11l3, .int 0]) (rest := []) ⟨hx, hb, hml, hown, hts⟩ (c_X1_enter l D k ob L11l3 0 ob_0 obv1 obv2 L11a5 H.size (show 0 ≤ 0 ∧ 0 ≤ 1000000 from by omega) L11a5h0) (cwV 2 hts (gV tw_3_195 tw_3_197 tw_p_19 tw_1_6 tw_3_198) rfl rfl rfl hdV_X1_enter ⟨Nat.le_of_ble_eq_true rfl, Nat.le_of_ble_eq_true rfl⟩) (cz_V hK hPc hDc hN (ci := 1) (q0 := 0) rfl rfl [.int L11l3, .int 0]) rfl rfl hl.1 rfl (lv_room (Nat.le_of_ble_eq_true rfl)) dX1_fallAt_31 ⟨Nat.le_of_ble_eq_true rfl, Nat.le_of_ble_eq_true rfl⟩) hS (fun q _ h => hFc q h) hFc (fun uZ tZ H1 locs ht hvm hw hB hz1 hk1 hS => ?_)
      obtain ⟨o_22, rfl⟩ : ∃ z, z = uZ := ⟨_, rfl⟩
      obtain ⟨hP1, hK1, hD1⟩ := hB
      rw [ht] at hP1
      obtain ⟨hP, hD⟩ := va_join (wr := [(tn, .inr (10, [.int tnv0, .int tnv1, .int tnv2, .ref tn_3, .ref tn_4, .ref tn_5, .ref tn_6, .int tnv7, .int tnv8, .ref tn_9, .ref tn_10, .int tnv11, .ref tn_12, .ref tn_13, .ref tn_14, .ref tn_15, .int tnv16, .ref tn_17, .ref tn_18, .ref tnt])), (tn_3, .inl (k 0, 10, .inl tng3)), (tn_4, .inl (k 0, 10, .inl tng4)), (tn_5, .inl (k 0, 10, .inl tng5))]) (w1 := [(ob, .inr (1, [.ref ob_0, .int obv1, .int obv2])), (ob_0, .inl (k 0, 8, .inl o_22))]) hP hD [0, 5] [1, 2, 3, 4] rfl rfl (by decide +kernel) (by decide +kernel) hk1 hFc hP1 hD1
      clear hK1 hP1 hD1 hPc hDc hFc
      clear hk1 hz1 ht hvm
      have hP : va_P D vwCl [(tn, .inr (10, [.int tnv0, .int tnv1, .int tnv2, .ref tn_3, .ref tn_4, .ref tn_5, .ref tn_6, .int tnv7, .int tnv8, .ref tn_9, .ref tn_10, .int tnv11, .ref tn_12, .ref tn_13, .ref tn_14, .ref tn_15, .int tnv16, .ref tn_17, .ref tn_18, .ref tnt])), (tn_3, .inl (k 0, 10, .inl tng3)), (tn_4, .inl (k 0, 10, .inl tng4)), (tn_5, .inl (k 0, 10, .inl tng5)), (ob, .inr (1, [.ref ob_0, .int obv1, .int obv2])), (ob_0, .inl (k 0, 8, .inl o_22))] H1 := hP
      have hD : va_D A [(tn, .inr (10, [.int tnv0, .int tnv1, .int tnv2, .ref tn_3, .ref tn_4, .ref tn_5, .ref tn_6, .int tnv7, .int tnv8, .ref tn_9, .ref tn_10, .int tnv11, .ref tn_12, .ref tn_13, .ref tn_14, .ref tn_15, .int tnv16, .ref tn_17, .ref tn_18, .ref tnt])), (tn_3, .inl (k 0, 10, .inl tng3)), (tn_4, .inl (k 0, 10, .inl tng4)), (tn_5, .inl (k 0, 10, .inl tng5)), (ob, .inr (1, [.ref ob_0, .int obv1, .int obv2])), (ob_0, .inl (k 0, 8, .inl o_22))] := hD
      generalize H1 = H at hP hS ⊢
      have hw_23 : (PR 8 1 0 0 1000000 o_22) := hw
      have hw_24 := hw_23
      clear hw
      obtain ⟨x_25, ex_25⟩ : ∃ y : Int32, y = L11l3 + 1 := ⟨_, rfl⟩
      have zx_25 : x_25.toInt = L11l3.toInt + 1 := by rw [ex_25]; exact z_add rfl rfl (by omega) (by omega)
      refine lv_iinc (v := x_25) (lv' := [(3, .int x_25), (0, .ref ob), (1, .ref tn), (2, .int p1)]) hx hb dX1_fallAt_34 hl (k := 3) rfl (by rw [ex_25]; rfl) (by decide) rfl (fun ls hl => ?_)
      refine lv_goto (tgt := 11) hx hb dX1_fallAt_37 (by decide) ?_
      exact ih_5 _ _ _ _ (by omega) ⟨x_25, o_22, rfl, (show 0 ≤ x_25.toInt ∧ x_25.toInt ≤ 8 from by omega), hw_24, hP.sub (ws' := [(ob, .inr (1, [.ref ob_0, .int obv1, .int obv2])), (tn, .inr (10, [.int tnv0, .int tnv1, .int tnv2, .ref tn_3, .ref tn_4, .ref tn_5, .ref tn_6, .int tnv7, .int tnv8, .ref tn_9, .ref tn_10, .int tnv11, .ref tn_12, .ref tn_13, .ref tn_14, .ref tn_15, .int tnv16, .ref tn_17, .ref tn_18, .ref tnt])), (tn_3, .inl (k 0, 10, .inl tng3)), (tn_4, .inl (k 0, 10, .inl tng4)), (tn_5, .inl (k 0, 10, .inl tng5)), (ob_0, .inl (k 0, 8, .inl o_22))]) [4, 0, 1, 2, 3, 5] rfl, hD.sub (ws' := [(ob, .inr (1, [.ref ob_0, .int obv1, .int obv2])), (tn, .inr (10, [.int tnv0, .int tnv1, .int tnv2, .ref tn_3, .ref tn_4, .ref tn_5, .ref tn_6, .int tnv7, .int tnv8, .ref tn_9, .ref tn_10, .int tnv11, .ref tn_12, .ref tn_13, .ref tn_14, .ref tn_15, .int tnv16, .ref tn_17, .ref tn_18, .ref tnt])), (tn_3, .inl (k 0, 10, .inl tng3)), (tn_4, .inl (k 0, 10, .inl tng4)), (tn_5, .inl (k 0, 10, .inl tng5)), (ob_0, .inl (k 0, 8, .inl o_22))]) [4, 0, 1, 2, 3, 5] (by decide +kernel) rfl, hS, lv_sub hl [1, 2, 3, 0] rfl⟩
set_option maxHeartbeats 4000000 in
set_option maxRecDepth 100000 in
theorem c_X1_isLike (l : Launch) (D : va_G) (k : Nat → ClassId) (ob : Nat) (dk : Nat) (p1 : Int32) (ob_0 : Nat) (obv1 : Int32) (obv2 : Int32) (obg0 : Nat → Int32) (dk_0 : Nat) (dkv1 : Int32) (dkv2 : Int32) (dkg0 : Nat → Int32) (sz : Nat) (h_p1 : 0 ≤ p1.toInt ∧ p1.toInt ≤ 8) (hp_obg0_0 : PR 8 1 0 0 1000000 obg0) (hp_dkg0_0 : PR 8 1 0 0 1000000 dkg0) : Met l yX1_isLike (ww yX1_isLike cX1_isLike 4 (some .boolean)) ({ frames := 0, cells := 0, slots := 0, locals := 0 }) (Pre0 D k [(ob, .inr (1, [.ref ob_0, .int obv1, .int obv2])), (ob_0, .inl (k 0, 8, .inl obg0)), (dk, .inr (1, [.ref dk_0, .int dkv1, .int dkv2])), (dk_0, .inl (k 0, 8, .inl dkg0))] sz [.ref ob, .ref dk, .int p1]) (va_Qi (fun (r : Int32) (_ : Unit) => (0 ≤ r.toInt ∧ r.toInt ≤ 1)) (fun (_ : Unit) tZ => Bw D k (va_A [(ob, .inr (1, [.ref ob_0, .int obv1, .int obv2])), (ob_0, .inl (k 0, 8, .inl obg0)), (dk, .inr (1, [.ref dk_0, .int dkv1, .int dkv2])), (dk_0, .inl (k 0, 8, .inl dkg0))] sz) [(ob, .inr (1, [.ref ob_0, .int obv1, .int obv2])), (ob_0, .inl (k 0, 8, .inl obg0)), (dk, .inr (1, [.ref dk_0, .int dkv1, .int dkv2])), (dk_0, .inl (k 0, 8, .inl dkg0))] tZ) (va_A [(ob, .inr (1, [.ref ob_0, .int obv1, .int obv2])), (ob_0, .inl (k 0, 8, .inl obg0)), (dk, .inr (1, [.ref dk_0, .int dkv1, .int dkv2])), (dk_0, .inl (k 0, 8, .inl dkg0))] sz)) 0 0 (va_A [(ob, .inr (1, [.ref ob_0, .int obv1, .int obv2])), (ob_0, .inl (k 0, 8, .inl obg0)), (dk, .inr (1, [.ref dk_0, .int dkv1, .int dkv2])), (dk_0, .inl (k 0, 8, .inl dkg0))] sz) := by
  refine Met.ofW (cc := cX1_isLike) (maxL := 4) (ret := (some .boolean)) (by decide +kernel) rfl ?_
  intro p e s m args below meth c s₁ B hml hv
  obtain ⟨rfl, hsz, hP, hK, hD0, hN⟩ := hv
  have hx := B.exec
  have hb := B.bytes
  have hr := B.returns
  have hts : ∀ w ∈ TT, w.before _ s = true := fun w h => atoms_spec (ws := ww yX1_isLike cX1_isLike 4 (some .boolean)) B.pre w (List.mem_cons_of_mem _ h)
  have hown : s.vm.findClass RX1 = some m.cls := findClass_of_methodNamed B.named
  have hlocks := B.notSynchronized
  subst hsz
  have hD := hD0.self (sz := s.heap.size)
  generalize hAe : va_A [(ob, .inr (1, [.ref ob_0, .int obv1, .int obv2])), (ob_0, .inl (k 0, 8, .inl obg0)), (dk, .inr (1, [.ref dk_0, .int dkv1, .int dkv2])), (dk_0, .inl (k 0, 8, .inl dkg0))] s.heap.size = A at hD ⊢
  have hA : ∀ q : Nat, s.heap.size ≤ q → A q := fun q h => by rw [← hAe]; exact Or.inr h
  have hS : va_S A s.heap s.heap [] := va_S.rf
  have hl := lv_entry ([.ref ob, .ref dk, .int p1]) (n := 4) (Nat.le_of_ble_eq_true rfl)
  rw [lg_entry_eq]
  generalize (lg_sl ([.ref ob, .ref dk, .int p1]) ++ List.replicate (4 - (lg_sl ([.ref ob, .ref dk, .int p1])).length) Slot.unset).toArray = ls at hl ⊢
  have hl : lv_has ls 4 [(0, .ref ob), (1, .ref dk), (2, .int p1)] := hl
  refine lv_iconst (v := 0) hx hb dX1_isLike_0 (by decide) ?_
  refine lv_istore_n (lv' := [(3, .int 0), (0, .ref ob), (1, .ref dk), (2, .int p1)]) hx hb dX1_isLike_1 rfl hl (by decide) rfl (fun ls hl => ?_)
  refine loop_r (Wg := fun H locs ls => W p l e _ s m _ below meth c H locs _ _ _ (F0 m 2 ls [])) (fun n9 H locs ls => ∃ (L2l3 : Int32), n9 = (8 - L2l3.toInt).toNat ∧ (0 ≤ L2l3.toInt ∧ L2l3.toInt ≤ 8) ∧ va_P D vwCl [(ob, .inr (1, [.ref ob_0, .int obv1, .int obv2])), (ob_0, .inl (k 0, 8, .inl obg0)), (dk, .inr (1, [.ref dk_0, .int dkv1, .int dkv2])), (dk_0, .inl (k 0, 8, .inl dkg0))] H ∧ va_D A [(ob, .inr (1, [.ref ob_0, .int obv1, .int obv2])), (ob_0, .inl (k 0, 8, .inl obg0)), (dk, .inr (1, [.ref dk_0, .int dkv1, .int dkv2])), (dk_0, .inl (k 0, 8, .inl dkg0))] ∧ va_S A s.heap H locs ∧ lv_has ls 4 [(0, .ref ob), (1, .ref dk), (2, .int p1), (3, .int L2l3)]) (fun n9 H locs ls hI ih_1 => ?_) _ _ _ _ ⟨0, rfl, (show 0 ≤ 0 ∧ 0 ≤ 8 from by omega), hP.sub (ws' := [(ob, .inr (1, [.ref ob_0, .int obv1, .int obv2])), (ob_0, .inl (k 0, 8, .inl obg0)), (dk, .inr (1, [.ref dk_0, .int dkv1, .int dkv2])), (dk_0, .inl (k 0, 8, .inl dkg0))]) [0, 1, 2, 3] rfl, hD.sub (ws' := [(ob, .inr (1, [.ref ob_0, .int obv1, .int obv2])), (ob_0, .inl (k 0, 8, .inl obg0)), (dk, .inr (1, [.ref dk_0, .int dkv1, .int dkv2])), (dk_0, .inl (k 0, 8, .inl dkg0))]) [0, 1, 2, 3] (by decide +kernel) rfl, hS, lv_sub hl [1, 2, 3, 0] rfl⟩
  clear hP hD hS hl
  obtain ⟨L2l3, en_2, zL2l3, hP, hD, hS, hl⟩ := hI
  refine lv_iload_n hx hb dX1_isLike_2 rfl (lv_at hl 3 rfl) ?_
  refine lv_iload_n hx hb dX1_isLike_3 rfl (lv_at hl 2 rfl) ?_
  refine lv_icmp_ge (tgt := 30) hx hb dX1_isLike_4 (by decide) (fun h_3 => ?_) (fun h_3 => ?_)
  · skip
    have zh_3 : p1.toInt ≤ L2l3.toInt := z_le h_3
    refine lv_iconst (v := 1) hx hb dX1_isLike_30 (by decide) ?_
    obtain ⟨hP9, hD9⟩ := sub2 hP hD (ws' := [(ob, .inr (1, [.ref ob_0, .int obv1, .int obv2])), (ob_0, .inl (k 0, 8, .inl obg0)), (dk, .inr (1, [.ref dk_0, .int dkv1, .int dkv2])), (dk_0, .inl (k 0, 8, .inl dkg0))]) [0, 1, 2, 3] (by decide +kernel) rfl
    exact W.zret (v := 1) hx hb hr (by decide) (fun tZ ht hW => ⟨⟨1, (), rfl, (show 0 ≤ 1 ∧ 1 ≤ 1 from by omega), by rw [ht]; exact hP9, va_K.moved hW.alike hK, hD9⟩, hS.F ht⟩) hS.2.2 dX1_isLike_31
  · skip
    have zh_3 : L2l3.toInt < p1.toInt := z_nle h_3
    refine lv_aload_n hx hb dX1_isLike_7 rfl (lv_at hl 0 rfl) ?_
    refine va_get (D := D) (ci := 1) (v := .ref ob_0) (C := RX1) (T := TX1) (N := 3) hx hb hts iT_X1 hown hK hP 0 rfl rfl 0 (by decide) (hts _ tw_2_17) (fun _ h9 => h9) rfl dX1_isLike_8 ?_
    refine lv_iload_n hx hb dX1_isLike_11 rfl (lv_at hl 3 rfl) ?_
    refine va_iald hx hb hK hP 1 0 rfl rfl (z_in (by omega) (by omega)) dX1_isLike_12 ?_
    refine lv_topi (fun x_4 ex_4 => ?_)
    have zx_4r0 : 0 ≤ x_4.toInt ∧ x_4.toInt ≤ 1000000 := by rw [ex_4]; exact PR.ld hp_obg0_0 (by omega) (by omega) (by omega)
    refine lv_aload_n hx hb dX1_isLike_13 rfl (lv_at hl 1 rfl) ?_
    refine va_get (D := D) (ci := 1) (v := .ref dk_0) (C := RX1) (T := TX1) (N := 3) hx hb hts iT_X1 hown hK hP 2 rfl rfl 0 (by decide) (hts _ tw_2_17) (fun _ h9 => h9) rfl dX1_isLike_14 ?_
    refine lv_iload_n hx hb dX1_isLike_17 rfl (lv_at hl 3 rfl) ?_
    refine va_iald hx hb hK hP 3 0 rfl rfl (z_in (by omega) (by omega)) dX1_isLike_18 ?_
    refine lv_topi (fun x_5 ex_5 => ?_)
    have zx_5r0 : 0 ≤ x_5.toInt ∧ x_5.toInt ≤ 1000000 := by rw [ex_5]; exact PR.ld hp_dkg0_0 (by omega) (by omega) (by omega)
    refine lv_icmp_eq (tgt := 24) hx hb dX1_isLike_19 (by decide) (fun h_6 => ?_) (fun h_6 => ?_)
    · skip
      have zh_6 : x_4.toInt = x_5.toInt := z_eq h_6
      obtain ⟨x_7, ex_7⟩ : ∃ y : Int32, y = L2l3 + 1 := ⟨_, rfl⟩
      have zx_7 : x_7.toInt = L2l3.toInt + 1 := by rw [ex_7]; exact z_add rfl rfl (by omega) (by omega)
      refine lv_iinc (v := x_7) (lv' := [(3, .int x_7), (0, .ref ob), (1, .ref dk), (2, .int p1)]) hx hb dX1_isLike_24 hl (k := 3) rfl (by rw [ex_7]; rfl) (by decide) rfl (fun ls hl => ?_)
      refine lv_goto (tgt := 2) hx hb dX1_isLike_27 (by decide) ?_
      exact ih_1 _ _ _ _ (by omega) ⟨x_7, rfl, (show 0 ≤ x_7.toInt ∧ x_7.toInt ≤ 8 from by omega), hP.sub (ws' := [(ob, .inr (1, [.ref ob_0, .int obv1, .int obv2])), (ob_0, .inl (k 0, 8, .inl obg0)), (dk, .inr (1, [.ref dk_0, .int dkv1, .int dkv2])), (dk_0, .inl (k 0, 8, .inl dkg0))]) [0, 1, 2, 3] rfl, hD.sub (ws' := [(ob, .inr (1, [.ref ob_0, .int obv1, .int obv2])), (ob_0, .inl (k 0, 8, .inl obg0)), (dk, .inr (1, [.ref dk_0, .int dkv1, .int dkv2])), (dk_0, .inl (k 0, 8, .inl dkg0))]) [0, 1, 2, 3] (by decide +kernel) rfl, hS, lv_sub hl [1, 2, 3, 0] rfl⟩
    · skip
      have zh_6 : ¬ x_4.toInt = x_5.toInt := z_ne h_6
      refine lv_iconst (v := 0) hx hb dX1_isLike_22 (by decide) ?_
      obtain ⟨hP9, hD9⟩ := sub2 hP hD (ws' := [(ob, .inr (1, [.ref ob_0, .int obv1, .int obv2])), (ob_0, .inl (k 0, 8, .inl obg0)), (dk, .inr (1, [.ref dk_0, .int dkv1, .int dkv2])), (dk_0, .inl (k 0, 8, .inl dkg0))]) [0, 1, 2, 3] (by decide +kernel) rfl
      exact W.zret (v := 0) hx hb hr (by decide) (fun tZ ht hW => ⟨⟨0, (), rfl, (show 0 ≤ 0 ∧ 0 ≤ 1 from by omega), by rw [ht]; exact hP9, va_K.moved hW.alike hK, hD9⟩, hS.F ht⟩) hS.2.2 dX1_isLike_23
set_option maxHeartbeats 4000000 in
set_option maxRecDepth 100000 in
theorem c_J9_max_7cf53 (l : Launch) (D : va_G) (k : Nat → ClassId) (p0 : Int32) (p1 : Int32) (sz : Nat) : Met l yJ9_max_7cf53 (ww yJ9_max_7cf53 cJ9_max_7cf53 2 (some .int)) ({ frames := 0, cells := 0, slots := 0, locals := 0 }) (Pre0 D k [] sz [.int p0, .int p1]) (va_Qi (fun (r : Int32) (_ : Unit) => (p0.toInt ≤ r.toInt ∧ p1.toInt ≤ r.toInt ∧ (r.toInt = p0.toInt ∨ r.toInt = p1.toInt))) (fun (_ : Unit) tZ => Bw D k (va_A [] sz) [] tZ) (va_A [] sz)) 0 0 (va_A [] sz) := by
  refine va_MetF (cc := cJ9_max_7cf53) (maxL := 2) (ret := (some .int)) (by decide +kernel) rfl ?_
  intro p e s m args below meth c s₁ B hml hv
  obtain ⟨rfl, hsz, hP, hK, hD0, hN⟩ := hv
  have hx := B.exec
  have hb := B.bytes
  have hr := B.returns
  have hts : ∀ w ∈ TT, w.before _ s = true := fun w h => atoms_spec (ws := ww yJ9_max_7cf53 cJ9_max_7cf53 2 (some .int)) B.pre w (List.mem_cons_of_mem _ h)
  have hown : s.vm.findClass RJ9 = some m.cls := findClass_of_methodNamed B.named
  have hlocks := B.notSynchronized
  subst hsz
  have hD := hD0.self (sz := s.heap.size)
  generalize hAe : va_A [] s.heap.size = A at hD ⊢
  have hA : ∀ q : Nat, s.heap.size ≤ q → A q := fun q h => by rw [← hAe]; exact Or.inr h
  have hS : va_S A s.heap s.heap [] := va_S.rf
  have hl := lv_entry ([.int p0, .int p1]) (n := 2) (Nat.le_of_ble_eq_true rfl)
  rw [lg_entry_eq]
  generalize (lg_sl ([.int p0, .int p1]) ++ List.replicate (2 - (lg_sl ([.int p0, .int p1])).length) Slot.unset).toArray = ls at hl ⊢
  have hl : lv_has ls 2 [(0, .int p0), (1, .int p1)] := hl
  refine lv_iload_n hx hb dJ9_max_7cf53_0 rfl (lv_at hl 0 rfl) ?_
  refine lv_iload_n hx hb dJ9_max_7cf53_1 rfl (lv_at hl 1 rfl) ?_
  refine lv_icmp_lt (tgt := 9) hx hb dJ9_max_7cf53_2 (by decide) (fun h_1 => ?_) (fun h_1 => ?_)
  · skip
    have zh_1 : p0.toInt < p1.toInt := z_lt h_1
    refine lv_iload_n hx hb dJ9_max_7cf53_9 rfl (lv_at hl 1 rfl) ?_
    obtain ⟨hP9, hD9⟩ := sub2 hP hD (ws' := []) [] (by decide +kernel) rfl
    exact W.iret (v := p1) hx hb hr (fun tZ ht hW => ⟨⟨p1, (), rfl, (show p0.toInt ≤ p1.toInt ∧ p1.toInt ≤ p1.toInt ∧ (p1.toInt = p0.toInt ∨ p1.toInt = p1.toInt) from by omega), by rw [ht]; exact hP9, va_K.moved hW.alike hK, hD9⟩, hS.F ht⟩) hS.2.2 dJ9_max_7cf53_10
  · skip
    have zh_1 : p1.toInt ≤ p0.toInt := z_nlt h_1
    refine lv_iload_n hx hb dJ9_max_7cf53_5 rfl (lv_at hl 0 rfl) ?_
    refine lv_goto (tgt := 10) hx hb dJ9_max_7cf53_6 (by decide) ?_
    obtain ⟨hP9, hD9⟩ := sub2 hP hD (ws' := []) [] (by decide +kernel) rfl
    exact W.iret (v := p0) hx hb hr (fun tZ ht hW => ⟨⟨p0, (), rfl, (show p0.toInt ≤ p0.toInt ∧ p1.toInt ≤ p0.toInt ∧ (p0.toInt = p0.toInt ∨ p0.toInt = p1.toInt) from by omega), by rw [ht]; exact hP9, va_K.moved hW.alike hK, hD9⟩, hS.F ht⟩) hS.2.2 dJ9_max_7cf53_10
set_option maxHeartbeats 4000000 in
set_option maxRecDepth 100000 in
theorem c_X1_latest (l : Launch) (D : va_G) (k : Nat → ClassId) (ob : Nat) (tn : Nat) (ob_0 : Nat) (obv1 : Int32) (obv2 : Int32) (obg0 : Nat → Int32) (tnv0 : Int32) (tnv1 : Int32) (tnv2 : Int32) (tn_3 : Nat) (tn_4 : Nat) (tn_5 : Nat) (tn_6 : Nat) (tnv7 : Int32) (tnv8 : Int32) (tn_9 : Nat) (tn_10 : Nat) (tnv11 : Int32) (tn_12 : Nat) (tn_13 : Nat) (tn_14 : Nat) (tn_15 : Nat) (tnv16 : Int32) (tn_17 : Nat) (tn_18 : Nat) (tnt : Nat) (sz : Nat) (hp_obg0_0 : PR 8 1 0 0 1000000 obg0) (h_tnv0 : 0 ≤ tnv0.toInt ∧ tnv0.toInt ≤ 8) (h_tnv2 : 0 ≤ tnv2.toInt ∧ tnv2.toInt ≤ 10) (h_tnv8 : 0 ≤ tnv8.toInt ∧ tnv8.toInt ≤ 4) (h_tnv11 : 0 ≤ tnv11.toInt ∧ tnv11.toInt ≤ 6) (h_tnv16 : 0 ≤ tnv16.toInt ∧ tnv16.toInt ≤ 2) : Met l yX1_latest (ww yX1_latest cX1_latest 4 (some .int)) ({ frames := 1, cells := 0, slots := 0, locals := 21 }) (Pre0 D k [(ob, .inr (1, [.ref ob_0, .int obv1, .int obv2])), (ob_0, .inl (k 0, 8, .inl obg0)), (tn, .inr (10, [.int tnv0, .int tnv1, .int tnv2, .ref tn_3, .ref tn_4, .ref tn_5, .ref tn_6, .int tnv7, .int tnv8, .ref tn_9, .ref tn_10, .int tnv11, .ref tn_12, .ref tn_13, .ref tn_14, .ref tn_15, .int tnv16, .ref tn_17, .ref tn_18, .ref tnt]))] sz [.ref ob, .ref tn]) (va_Qi (fun (r : Int32) (_ : Unit) => (0 ≤ r.toInt ∧ r.toInt ≤ 1000000)) (fun (_ : Unit) tZ => Bw D k (va_A [(ob, .inr (1, [.ref ob_0, .int obv1, .int obv2])), (ob_0, .inl (k 0, 8, .inl obg0)), (tn, .inr (10, [.int tnv0, .int tnv1, .int tnv2, .ref tn_3, .ref tn_4, .ref tn_5, .ref tn_6, .int tnv7, .int tnv8, .ref tn_9, .ref tn_10, .int tnv11, .ref tn_12, .ref tn_13, .ref tn_14, .ref tn_15, .int tnv16, .ref tn_17, .ref tn_18, .ref tnt]))] sz) [(ob, .inr (1, [.ref ob_0, .int obv1, .int obv2])), (ob_0, .inl (k 0, 8, .inl obg0)), (tn, .inr (10, [.int tnv0, .int tnv1, .int tnv2, .ref tn_3, .ref tn_4, .ref tn_5, .ref tn_6, .int tnv7, .int tnv8, .ref tn_9, .ref tn_10, .int tnv11, .ref tn_12, .ref tn_13, .ref tn_14, .ref tn_15, .int tnv16, .ref tn_17, .ref tn_18, .ref tnt]))] tZ) (va_A [(ob, .inr (1, [.ref ob_0, .int obv1, .int obv2])), (ob_0, .inl (k 0, 8, .inl obg0)), (tn, .inr (10, [.int tnv0, .int tnv1, .int tnv2, .ref tn_3, .ref tn_4, .ref tn_5, .ref tn_6, .int tnv7, .int tnv8, .ref tn_9, .ref tn_10, .int tnv11, .ref tn_12, .ref tn_13, .ref tn_14, .ref tn_15, .int tnv16, .ref tn_17, .ref tn_18, .ref tnt]))] sz)) 0 0 (va_A [(ob, .inr (1, [.ref ob_0, .int obv1, .int obv2])), (ob_0, .inl (k 0, 8, .inl obg0)), (tn, .inr (10, [.int tnv0, .int tnv1, .int tnv2, .ref tn_3, .ref tn_4, .ref tn_5, .ref tn_6, .int tnv7, .int tnv8, .ref tn_9, .ref tn_10, .int tnv11, .ref tn_12, .ref tn_13, .ref tn_14, .ref tn_15, .int tnv16, .ref tn_17, .ref tn_18, .ref tnt]))] sz) := by
  refine Met.ofW (cc := cX1_latest) (maxL := 4) (ret := (some .int)) (by decide +kernel) rfl ?_
  intro p e s m args below meth c s₁ B hml hv
  obtain ⟨rfl, hsz, hP, hK, hD0, hN⟩ := hv
  have hx := B.exec
  have hb := B.bytes
  have hr := B.returns
  have hts : ∀ w ∈ TT, w.before _ s = true := fun w h => atoms_spec (ws := ww yX1_latest cX1_latest 4 (some .int)) B.pre w (List.mem_cons_of_mem _ h)
  have hown : s.vm.findClass RX1 = some m.cls := findClass_of_methodNamed B.named
  have hlocks := B.notSynchronized
  subst hsz
  have hD := hD0.self (sz := s.heap.size)
  generalize hAe : va_A [(ob, .inr (1, [.ref ob_0, .int obv1, .int obv2])), (ob_0, .inl (k 0, 8, .inl obg0)), (tn, .inr (10, [.int tnv0, .int tnv1, .int tnv2, .ref tn_3, .ref tn_4, .ref tn_5, .ref tn_6, .int tnv7, .int tnv8, .ref tn_9, .ref tn_10, .int tnv11, .ref tn_12, .ref tn_13, .ref tn_14, .ref tn_15, .int tnv16, .ref tn_17, .ref tn_18, .ref tnt]))] s.heap.size = A at hD ⊢
  have hA : ∀ q : Nat, s.heap.size ≤ q → A q := fun q h => by rw [← hAe]; exact Or.inr h
  have hS : va_S A s.heap s.heap [] := va_S.rf
  have hl := lv_entry ([.ref ob, .ref tn]) (n := 4) (Nat.le_of_ble_eq_true rfl)
  rw [lg_entry_eq]
  generalize (lg_sl ([.ref ob, .ref tn]) ++ List.replicate (4 - (lg_sl ([.ref ob, .ref tn])).length) Slot.unset).toArray = ls at hl ⊢
  have hl : lv_has ls 4 [(0, .ref ob), (1, .ref tn)] := hl
  refine lv_iconst (v := 0) hx hb dX1_latest_0 (by decide) ?_
  refine lv_istore_n (lv' := [(2, .int 0), (0, .ref ob), (1, .ref tn)]) hx hb dX1_latest_1 rfl hl (by decide) rfl (fun ls hl => ?_)
  refine lv_iconst (v := 0) hx hb dX1_latest_2 (by decide) ?_
  refine lv_istore_n (lv' := [(3, .int 0), (2, .int 0), (0, .ref ob), (1, .ref tn)]) hx hb dX1_latest_3 rfl hl (by decide) rfl (fun ls hl => ?_)
  refine loop_r (Wg := fun H locs ls => W p l e _ s m _ below meth c H locs _ _ _ (F0 m 4 ls [])) (fun n9 H locs ls => ∃ (L4l2 : Int32) (L4l3 : Int32), n9 = (8 - L4l3.toInt).toNat ∧ (0 ≤ L4l2.toInt ∧ L4l2.toInt ≤ 1000000) ∧ (0 ≤ L4l3.toInt ∧ L4l3.toInt ≤ 8) ∧ va_P D vwCl [(ob, .inr (1, [.ref ob_0, .int obv1, .int obv2])), (ob_0, .inl (k 0, 8, .inl obg0)), (tn, .inr (10, [.int tnv0, .int tnv1, .int tnv2, .ref tn_3, .ref tn_4, .ref tn_5, .ref tn_6, .int tnv7, .int tnv8, .ref tn_9, .ref tn_10, .int tnv11, .ref tn_12, .ref tn_13, .ref tn_14, .ref tn_15, .int tnv16, .ref tn_17, .ref tn_18, .ref tnt]))] H ∧ va_D A [(ob, .inr (1, [.ref ob_0, .int obv1, .int obv2])), (ob_0, .inl (k 0, 8, .inl obg0)), (tn, .inr (10, [.int tnv0, .int tnv1, .int tnv2, .ref tn_3, .ref tn_4, .ref tn_5, .ref tn_6, .int tnv7, .int tnv8, .ref tn_9, .ref tn_10, .int tnv11, .ref tn_12, .ref tn_13, .ref tn_14, .ref tn_15, .int tnv16, .ref tn_17, .ref tn_18, .ref tnt]))] ∧ va_S A s.heap H locs ∧ lv_has ls 4 [(0, .ref ob), (1, .ref tn), (2, .int L4l2), (3, .int L4l3)]) (fun n9 H locs ls hI ih_1 => ?_) _ _ _ _ ⟨0, 0, rfl, (show 0 ≤ 0 ∧ 0 ≤ 1000000 from by omega), (show 0 ≤ 0 ∧ 0 ≤ 8 from by omega), hP.sub (ws' := [(ob, .inr (1, [.ref ob_0, .int obv1, .int obv2])), (ob_0, .inl (k 0, 8, .inl obg0)), (tn, .inr (10, [.int tnv0, .int tnv1, .int tnv2, .ref tn_3, .ref tn_4, .ref tn_5, .ref tn_6, .int tnv7, .int tnv8, .ref tn_9, .ref tn_10, .int tnv11, .ref tn_12, .ref tn_13, .ref tn_14, .ref tn_15, .int tnv16, .ref tn_17, .ref tn_18, .ref tnt]))]) [0, 1, 2] rfl, hD.sub (ws' := [(ob, .inr (1, [.ref ob_0, .int obv1, .int obv2])), (ob_0, .inl (k 0, 8, .inl obg0)), (tn, .inr (10, [.int tnv0, .int tnv1, .int tnv2, .ref tn_3, .ref tn_4, .ref tn_5, .ref tn_6, .int tnv7, .int tnv8, .ref tn_9, .ref tn_10, .int tnv11, .ref tn_12, .ref tn_13, .ref tn_14, .ref tn_15, .int tnv16, .ref tn_17, .ref tn_18, .ref tnt]))]) [0, 1, 2] (by decide +kernel) rfl, hS, lv_sub hl [2, 3, 1, 0] rfl⟩
  clear hP hD hS hl
  obtain ⟨L4l2, L4l3, en_2, zL4l2, zL4l3, hP, hD, hS, hl⟩ := hI
  refine lv_iload_n hx hb dX1_latest_4 rfl (lv_at hl 3 rfl) ?_
  refine lv_aload_n hx hb dX1_latest_5 rfl (lv_at hl 1 rfl) ?_
  refine va_get (D := D) (ci := 10) (v := .int tnv0) (C := RX10) (T := TX10) (N := 20) hx hb hts iT_X10 hown hK hP 2 rfl rfl 0 (by decide) (hts _ tw_1_70) (fun _ h9 => h9) rfl dX1_latest_6 ?_
  refine lv_icmp_ge (tgt := 29) hx hb dX1_latest_9 (by decide) (fun h_3 => ?_) (fun h_3 => ?_)
  · skip
    have zh_3 : tnv0.toInt ≤ L4l3.toInt := z_le h_3
    refine lv_iload_n hx hb dX1_latest_29 rfl (lv_at hl 2 rfl) ?_
    obtain ⟨hP9, hD9⟩ := sub2 hP hD (ws' := [(ob, .inr (1, [.ref ob_0, .int obv1, .int obv2])), (ob_0, .inl (k 0, 8, .inl obg0)), (tn, .inr (10, [.int tnv0, .int tnv1, .int tnv2, .ref tn_3, .ref tn_4, .ref tn_5, .ref tn_6, .int tnv7, .int tnv8, .ref tn_9, .ref tn_10, .int tnv11, .ref tn_12, .ref tn_13, .ref tn_14, .ref tn_15, .int tnv16, .ref tn_17, .ref tn_18, .ref tnt]))]) [0, 1, 2] (by decide +kernel) rfl
    exact W.iret (v := L4l2) hx hb hr (fun tZ ht hW => ⟨⟨L4l2, (), rfl, (show 0 ≤ L4l2.toInt ∧ L4l2.toInt ≤ 1000000 from by omega), by rw [ht]; exact hP9, va_K.moved hW.alike hK, hD9⟩, hS.F ht⟩) hS.2.2 dX1_latest_30
  · skip
    have zh_3 : L4l3.toInt < tnv0.toInt := z_nle h_3
    refine lv_iload_n hx hb dX1_latest_12 rfl (lv_at hl 2 rfl) ?_
    refine lv_aload_n hx hb dX1_latest_13 rfl (lv_at hl 0 rfl) ?_
    refine va_get (D := D) (ci := 1) (v := .ref ob_0) (C := RX1) (T := TX1) (N := 3) hx hb hts iT_X1 hown hK hP 0 rfl rfl 0 (by decide) (hts _ tw_2_17) (fun _ h9 => h9) rfl dX1_latest_14 ?_
    refine lv_iload_n hx hb dX1_latest_17 rfl (lv_at hl 3 rfl) ?_
    refine va_iald hx hb hK hP 1 0 rfl rfl (z_in (by omega) (by omega)) dX1_latest_18 ?_
    refine lv_topi (fun x_4 ex_4 => ?_)
    have zx_4r0 : 0 ≤ x_4.toInt ∧ x_4.toInt ≤ 1000000 := by rw [ex_4]; exact PR.ld hp_obg0_0 (by omega) (by omega) (by omega)
    obtain ⟨hPc, hDc, hFc⟩ := sub3 hP hD hS hA (ws' := []) [] (by decide +kernel) rfl
    refine va_calli (va_runS (As := [.int L4l2, .int x_4]) (rest := []) ⟨hx, hb, hml, hown, hts⟩ (c_J9_max_7cf53 l D k L4l2 x_4 H.size) (va_cwS 2 hts (gS tw_4_10 tw_4_11 tw_1_14 tw_4_12) rfl rfl rfl hdS_J9_max_7cf53 ⟨Nat.le_of_ble_eq_true rfl, Nat.le_of_ble_eq_true rfl⟩) (cz_S hK hPc hDc hN [.int L4l2, .int x_4]) rfl rfl hl.1 rfl (lv_room (Nat.le_of_ble_eq_true rfl)) dX1_latest_19 ⟨Nat.le_of_ble_eq_true rfl, Nat.le_of_ble_eq_true rfl⟩) hS (fun q _ h => hFc q h) hFc (fun r_5 uZ tZ H1 locs ht hvm hw hB hz1 hk1 hS => ?_)
    obtain ⟨hP1, hK1, hD1⟩ := hB
    rw [ht] at hP1
    obtain ⟨hP, hD⟩ := va_join (wr := [(ob, .inr (1, [.ref ob_0, .int obv1, .int obv2])), (ob_0, .inl (k 0, 8, .inl obg0)), (tn, .inr (10, [.int tnv0, .int tnv1, .int tnv2, .ref tn_3, .ref tn_4, .ref tn_5, .ref tn_6, .int tnv7, .int tnv8, .ref tn_9, .ref tn_10, .int tnv11, .ref tn_12, .ref tn_13, .ref tn_14, .ref tn_15, .int tnv16, .ref tn_17, .ref tn_18, .ref tnt]))]) (w1 := []) hP hD [] [0, 1, 2] rfl rfl (by decide +kernel) (by decide +kernel) hk1 hFc hP1 hD1
    clear hK1 hP1 hD1 hPc hDc hFc
    clear hk1 hz1 ht hvm
    have hP : va_P D vwCl [(ob, .inr (1, [.ref ob_0, .int obv1, .int obv2])), (ob_0, .inl (k 0, 8, .inl obg0)), (tn, .inr (10, [.int tnv0, .int tnv1, .int tnv2, .ref tn_3, .ref tn_4, .ref tn_5, .ref tn_6, .int tnv7, .int tnv8, .ref tn_9, .ref tn_10, .int tnv11, .ref tn_12, .ref tn_13, .ref tn_14, .ref tn_15, .int tnv16, .ref tn_17, .ref tn_18, .ref tnt]))] H1 := hP
    have hD : va_D A [(ob, .inr (1, [.ref ob_0, .int obv1, .int obv2])), (ob_0, .inl (k 0, 8, .inl obg0)), (tn, .inr (10, [.int tnv0, .int tnv1, .int tnv2, .ref tn_3, .ref tn_4, .ref tn_5, .ref tn_6, .int tnv7, .int tnv8, .ref tn_9, .ref tn_10, .int tnv11, .ref tn_12, .ref tn_13, .ref tn_14, .ref tn_15, .int tnv16, .ref tn_17, .ref tn_18, .ref tnt]))] := hD
    generalize H1 = H at hP hS ⊢
    have hw_6 : (L4l2.toInt ≤ r_5.toInt ∧ x_4.toInt ≤ r_5.toInt ∧ (r_5.toInt = L4l2.toInt ∨ r_5.toInt = x_4.toInt)) := hw
    have hw_7 := hw_6
    clear hw
    refine lv_istore_n (lv' := [(2, .int r_5), (0, .ref ob), (1, .ref tn), (3, .int L4l3)]) hx hb dX1_latest_22 rfl hl (by decide) rfl (fun ls hl => ?_)
    obtain ⟨x_8, ex_8⟩ : ∃ y : Int32, y = L4l3 + 1 := ⟨_, rfl⟩
    have zx_8 : x_8.toInt = L4l3.toInt + 1 := by rw [ex_8]; exact z_add rfl rfl (by omega) (by omega)
    refine lv_iinc (v := x_8) (lv' := [(3, .int x_8), (2, .int r_5), (0, .ref ob), (1, .ref tn)]) hx hb dX1_latest_23 hl (k := 3) rfl (by rw [ex_8]; rfl) (by decide) rfl (fun ls hl => ?_)
    refine lv_goto (tgt := 4) hx hb dX1_latest_26 (by decide) ?_
    exact ih_1 _ _ _ _ (by omega) ⟨r_5, x_8, rfl, (show 0 ≤ r_5.toInt ∧ r_5.toInt ≤ 1000000 from by omega), (show 0 ≤ x_8.toInt ∧ x_8.toInt ≤ 8 from by omega), hP.sub (ws' := [(ob, .inr (1, [.ref ob_0, .int obv1, .int obv2])), (ob_0, .inl (k 0, 8, .inl obg0)), (tn, .inr (10, [.int tnv0, .int tnv1, .int tnv2, .ref tn_3, .ref tn_4, .ref tn_5, .ref tn_6, .int tnv7, .int tnv8, .ref tn_9, .ref tn_10, .int tnv11, .ref tn_12, .ref tn_13, .ref tn_14, .ref tn_15, .int tnv16, .ref tn_17, .ref tn_18, .ref tnt]))]) [0, 1, 2] rfl, hD.sub (ws' := [(ob, .inr (1, [.ref ob_0, .int obv1, .int obv2])), (ob_0, .inl (k 0, 8, .inl obg0)), (tn, .inr (10, [.int tnv0, .int tnv1, .int tnv2, .ref tn_3, .ref tn_4, .ref tn_5, .ref tn_6, .int tnv7, .int tnv8, .ref tn_9, .ref tn_10, .int tnv11, .ref tn_12, .ref tn_13, .ref tn_14, .ref tn_15, .int tnv16, .ref tn_17, .ref tn_18, .ref tnt]))]) [0, 1, 2] (by decide +kernel) rfl, hS, lv_sub hl [2, 3, 1, 0] rfl⟩
set_option maxHeartbeats 4000000 in
set_option maxRecDepth 100000 in
theorem c_X1_acrossLane (l : Launch) (D : va_G) (k : Nat → ClassId) (ob : Nat) (tn : Nat) (p1 : Int32) (p2 : Int32) (ob_0 : Nat) (obv1 : Int32) (obv2 : Int32) (tnv0 : Int32) (tnv1 : Int32) (tnv2 : Int32) (tn_3 : Nat) (tn_4 : Nat) (tn_5 : Nat) (tn_6 : Nat) (tnv7 : Int32) (tnv8 : Int32) (tn_9 : Nat) (tn_10 : Nat) (tnv11 : Int32) (tn_12 : Nat) (tn_13 : Nat) (tn_14 : Nat) (tn_15 : Nat) (tnv16 : Int32) (tn_17 : Nat) (tn_18 : Nat) (tnt : Nat) (tng3 : Nat → Int32) (tng4 : Nat → Int32) (sz : Nat) (h_p1 : 0 ≤ p1.toInt ∧ p1.toInt ≤ 9) (h_tnv0 : 0 ≤ tnv0.toInt ∧ tnv0.toInt ≤ 8) (h_tnv2 : 0 ≤ tnv2.toInt ∧ tnv2.toInt ≤ 10) (h_tnv8 : 0 ≤ tnv8.toInt ∧ tnv8.toInt ≤ 4) (h_tnv11 : 0 ≤ tnv11.toInt ∧ tnv11.toInt ≤ 6) (h_tnv16 : 0 ≤ tnv16.toInt ∧ tnv16.toInt ≤ 2) (hp_tng3_0 : PR 10 1 0 0 7 tng3) (hp_tng4_0 : PR 10 1 0 0 7 tng4) : Met l yX1_acrossLane (ww yX1_acrossLane cX1_acrossLane 4 (some .int)) ({ frames := 0, cells := 0, slots := 0, locals := 0 }) (Pre0 D k [(ob, .inr (1, [.ref ob_0, .int obv1, .int obv2])), (tn, .inr (10, [.int tnv0, .int tnv1, .int tnv2, .ref tn_3, .ref tn_4, .ref tn_5, .ref tn_6, .int tnv7, .int tnv8, .ref tn_9, .ref tn_10, .int tnv11, .ref tn_12, .ref tn_13, .ref tn_14, .ref tn_15, .int tnv16, .ref tn_17, .ref tn_18, .ref tnt])), (tn_3, .inl (k 0, 10, .inl tng3)), (tn_4, .inl (k 0, 10, .inl tng4))] sz [.ref ob, .ref tn, .int p1, .int p2]) (va_Qi (fun (r : Int32) (_ : Unit) => ((-1) ≤ r.toInt ∧ r.toInt ≤ 7)) (fun (_ : Unit) tZ => Bw D k (va_A [(ob, .inr (1, [.ref ob_0, .int obv1, .int obv2])), (tn, .inr (10, [.int tnv0, .int tnv1, .int tnv2, .ref tn_3, .ref tn_4, .ref tn_5, .ref tn_6, .int tnv7, .int tnv8, .ref tn_9, .ref tn_10, .int tnv11, .ref tn_12, .ref tn_13, .ref tn_14, .ref tn_15, .int tnv16, .ref tn_17, .ref tn_18, .ref tnt])), (tn_3, .inl (k 0, 10, .inl tng3)), (tn_4, .inl (k 0, 10, .inl tng4))] sz) [(ob, .inr (1, [.ref ob_0, .int obv1, .int obv2])), (tn, .inr (10, [.int tnv0, .int tnv1, .int tnv2, .ref tn_3, .ref tn_4, .ref tn_5, .ref tn_6, .int tnv7, .int tnv8, .ref tn_9, .ref tn_10, .int tnv11, .ref tn_12, .ref tn_13, .ref tn_14, .ref tn_15, .int tnv16, .ref tn_17, .ref tn_18, .ref tnt])), (tn_3, .inl (k 0, 10, .inl tng3)), (tn_4, .inl (k 0, 10, .inl tng4))] tZ) (va_A [(ob, .inr (1, [.ref ob_0, .int obv1, .int obv2])), (tn, .inr (10, [.int tnv0, .int tnv1, .int tnv2, .ref tn_3, .ref tn_4, .ref tn_5, .ref tn_6, .int tnv7, .int tnv8, .ref tn_9, .ref tn_10, .int tnv11, .ref tn_12, .ref tn_13, .ref tn_14, .ref tn_15, .int tnv16, .ref tn_17, .ref tn_18, .ref tnt])), (tn_3, .inl (k 0, 10, .inl tng3)), (tn_4, .inl (k 0, 10, .inl tng4))] sz)) 0 0 (va_A [(ob, .inr (1, [.ref ob_0, .int obv1, .int obv2])), (tn, .inr (10, [.int tnv0, .int tnv1, .int tnv2, .ref tn_3, .ref tn_4, .ref tn_5, .ref tn_6, .int tnv7, .int tnv8, .ref tn_9, .ref tn_10, .int tnv11, .ref tn_12, .ref tn_13, .ref tn_14, .ref tn_15, .int tnv16, .ref tn_17, .ref tn_18, .ref tnt])), (tn_3, .inl (k 0, 10, .inl tng3)), (tn_4, .inl (k 0, 10, .inl tng4))] sz) := by
  refine Met.ofW (cc := cX1_acrossLane) (maxL := 4) (ret := (some .int)) (by decide +kernel) rfl ?_
  intro p e s m args below meth c s₁ B hml hv
  obtain ⟨rfl, hsz, hP, hK, hD0, hN⟩ := hv
  have hx := B.exec
  have hb := B.bytes
  have hr := B.returns
  have hts : ∀ w ∈ TT, w.before _ s = true := fun w h => atoms_spec (ws := ww yX1_acrossLane cX1_acrossLane 4 (some .int)) B.pre w (List.mem_cons_of_mem _ h)
  have hown : s.vm.findClass RX1 = some m.cls := findClass_of_methodNamed B.named
  have hlocks := B.notSynchronized
  subst hsz
  have hD := hD0.self (sz := s.heap.size)
  generalize hAe : va_A [(ob, .inr (1, [.ref ob_0, .int obv1, .int obv2])), (tn, .inr (10, [.int tnv0, .int tnv1, .int tnv2, .ref tn_3, .ref tn_4, .ref tn_5, .ref tn_6, .int tnv7, .int tnv8, .ref tn_9, .ref tn_10, .int tnv11, .ref tn_12, .ref tn_13, .ref tn_14, .ref tn_15, .int tnv16, .ref tn_17, .ref tn_18, .ref tnt])), (tn_3, .inl (k 0, 10, .inl tng3)), (tn_4, .inl (k 0, 10, .inl tng4))] s.heap.size = A at hD ⊢
  have hA : ∀ q : Nat, s.heap.size ≤ q → A q := fun q h => by rw [← hAe]; exact Or.inr h
  have hS : va_S A s.heap s.heap [] := va_S.rf
  have hl := lv_entry ([.ref ob, .ref tn, .int p1, .int p2]) (n := 4) (Nat.le_of_ble_eq_true rfl)
  rw [lg_entry_eq]
  generalize (lg_sl ([.ref ob, .ref tn, .int p1, .int p2]) ++ List.replicate (4 - (lg_sl ([.ref ob, .ref tn, .int p1, .int p2])).length) Slot.unset).toArray = ls at hl ⊢
  have hl : lv_has ls 4 [(0, .ref ob), (1, .ref tn), (2, .int p1), (3, .int p2)] := hl
  refine lv_aload_n hx hb dX1_acrossLane_0 rfl (lv_at hl 0 rfl) ?_
  refine va_get (D := D) (ci := 1) (v := .int obv1) (C := RX1) (T := TX1) (N := 3) hx hb hts iT_X1 hown hK hP 0 rfl rfl 1 (by decide) (hts _ tw_2_24) (fun _ h9 => h9) rfl dX1_acrossLane_1 ?_
  refine lv_iload_n hx hb dX1_acrossLane_4 rfl (lv_at hl 2 rfl) ?_
  refine lv_ishr hx hb dX1_acrossLane_5 ?_
  refine lv_topi (fun x_1 ex_1 => ?_)
  have zrobv1 := z_rng obv1
  refine lv_iconst (v := 1) hx hb dX1_acrossLane_6 (by decide) ?_
  refine lv_iand hx hb dX1_acrossLane_7 ?_
  refine lv_topi (fun x_2 ex_2 => ?_)
  have zrx_1 := z_rng x_1
  have zx_2 : 0 ≤ x_2.toInt ∧ x_2.toInt < 2 := by rw [ex_2]; exact z_and _ 1 2 rfl rfl (by decide)
  refine lv_if_ne (tgt := 13) hx hb dX1_acrossLane_8 (by decide) (fun h_3 => ?_) (fun h_3 => ?_)
  · skip
    have zh_3 : ¬ x_2.toInt = 0 := z_ne h_3
    refine lv_aload_n hx hb dX1_acrossLane_13 rfl (lv_at hl 1 rfl) ?_
    refine va_get (D := D) (ci := 10) (v := .ref tn_3) (C := RX10) (T := TX10) (N := 20) hx hb hts iT_X10 hown hK hP 1 rfl rfl 3 (by decide) (hts _ tw_1_87) (fun _ h9 => h9) rfl dX1_acrossLane_14 ?_
    refine lv_iload_n hx hb dX1_acrossLane_17 rfl (lv_at hl 2 rfl) ?_
    refine va_iald hx hb hK hP 2 0 rfl rfl (z_in (by omega) (by omega)) dX1_acrossLane_18 ?_
    refine lv_topi (fun x_4 ex_4 => ?_)
    have zx_4r0 : 0 ≤ x_4.toInt ∧ x_4.toInt ≤ 7 := by rw [ex_4]; exact PR.ld hp_tng3_0 (by omega) (by omega) (by omega)
    refine lv_iload_n hx hb dX1_acrossLane_19 rfl (lv_at hl 3 rfl) ?_
    refine lv_icmp_ne (tgt := 30) hx hb dX1_acrossLane_20 (by decide) (fun h_5 => ?_) (fun h_5 => ?_)
    · skip
      have zh_5 : ¬ x_4.toInt = p2.toInt := z_ne h_5
      refine lv_aload_n hx hb dX1_acrossLane_30 rfl (lv_at hl 1 rfl) ?_
      refine va_get (D := D) (ci := 10) (v := .ref tn_4) (C := RX10) (T := TX10) (N := 20) hx hb hts iT_X10 hown hK hP 1 rfl rfl 4 (by decide) (hts _ tw_1_91) (fun _ h9 => h9) rfl dX1_acrossLane_31 ?_
      refine lv_iload_n hx hb dX1_acrossLane_34 rfl (lv_at hl 2 rfl) ?_
      refine va_iald hx hb hK hP 3 0 rfl rfl (z_in (by omega) (by omega)) dX1_acrossLane_35 ?_
      refine lv_topi (fun x_6 ex_6 => ?_)
      have zx_6r0 : 0 ≤ x_6.toInt ∧ x_6.toInt ≤ 7 := by rw [ex_6]; exact PR.ld hp_tng4_0 (by omega) (by omega) (by omega)
      refine lv_iload_n hx hb dX1_acrossLane_36 rfl (lv_at hl 3 rfl) ?_
      refine lv_icmp_ne (tgt := 49) hx hb dX1_acrossLane_37 (by decide) (fun h_7 => ?_) (fun h_7 => ?_)
      · skip
        have zh_7 : ¬ x_6.toInt = p2.toInt := z_ne h_7
        refine lv_iconst (v := (-1)) hx hb dX1_acrossLane_49 (by decide) ?_
        obtain ⟨hP9, hD9⟩ := sub2 hP hD (ws' := [(ob, .inr (1, [.ref ob_0, .int obv1, .int obv2])), (tn, .inr (10, [.int tnv0, .int tnv1, .int tnv2, .ref tn_3, .ref tn_4, .ref tn_5, .ref tn_6, .int tnv7, .int tnv8, .ref tn_9, .ref tn_10, .int tnv11, .ref tn_12, .ref tn_13, .ref tn_14, .ref tn_15, .int tnv16, .ref tn_17, .ref tn_18, .ref tnt])), (tn_3, .inl (k 0, 10, .inl tng3)), (tn_4, .inl (k 0, 10, .inl tng4))]) [0, 1, 2, 3] (by decide +kernel) rfl
        exact W.iret (v := (-1)) hx hb hr (fun tZ ht hW => ⟨⟨(-1), (), rfl, (show (-1) ≤ (-1) ∧ (-1) ≤ 7 from by omega), by rw [ht]; exact hP9, va_K.moved hW.alike hK, hD9⟩, hS.F ht⟩) hS.2.2 dX1_acrossLane_50
      · skip
        have zh_7 : x_6.toInt = p2.toInt := z_eq h_7
        refine lv_aload_n hx hb dX1_acrossLane_40 rfl (lv_at hl 1 rfl) ?_
        refine va_get (D := D) (ci := 10) (v := .ref tn_3) (C := RX10) (T := TX10) (N := 20) hx hb hts iT_X10 hown hK hP 1 rfl rfl 3 (by decide) (hts _ tw_1_87) (fun _ h9 => h9) rfl dX1_acrossLane_41 ?_
        refine lv_iload_n hx hb dX1_acrossLane_44 rfl (lv_at hl 2 rfl) ?_
        refine va_iald hx hb hK hP 2 0 rfl rfl (z_in (by omega) (by omega)) dX1_acrossLane_45 ?_
        refine lv_topi (fun x_8 ex_8 => ?_)
        obtain rfl : x_4 = x_8 := ex_4.trans ex_8.symm
        refine lv_goto (tgt := 50) hx hb dX1_acrossLane_46 (by decide) ?_
        obtain ⟨hP9, hD9⟩ := sub2 hP hD (ws' := [(ob, .inr (1, [.ref ob_0, .int obv1, .int obv2])), (tn, .inr (10, [.int tnv0, .int tnv1, .int tnv2, .ref tn_3, .ref tn_4, .ref tn_5, .ref tn_6, .int tnv7, .int tnv8, .ref tn_9, .ref tn_10, .int tnv11, .ref tn_12, .ref tn_13, .ref tn_14, .ref tn_15, .int tnv16, .ref tn_17, .ref tn_18, .ref tnt])), (tn_3, .inl (k 0, 10, .inl tng3)), (tn_4, .inl (k 0, 10, .inl tng4))]) [0, 1, 2, 3] (by decide +kernel) rfl
        exact W.iret (v := x_4) hx hb hr (fun tZ ht hW => ⟨⟨x_4, (), rfl, (show (-1) ≤ x_4.toInt ∧ x_4.toInt ≤ 7 from by omega), by rw [ht]; exact hP9, va_K.moved hW.alike hK, hD9⟩, hS.F ht⟩) hS.2.2 dX1_acrossLane_50
    · skip
      have zh_5 : x_4.toInt = p2.toInt := z_eq h_5
      refine lv_aload_n hx hb dX1_acrossLane_23 rfl (lv_at hl 1 rfl) ?_
      refine va_get (D := D) (ci := 10) (v := .ref tn_4) (C := RX10) (T := TX10) (N := 20) hx hb hts iT_X10 hown hK hP 1 rfl rfl 4 (by decide) (hts _ tw_1_91) (fun _ h9 => h9) rfl dX1_acrossLane_24 ?_
      refine lv_iload_n hx hb dX1_acrossLane_27 rfl (lv_at hl 2 rfl) ?_
      refine va_iald hx hb hK hP 3 0 rfl rfl (z_in (by omega) (by omega)) dX1_acrossLane_28 ?_
      refine lv_topi (fun x_9 ex_9 => ?_)
      have zx_9r0 : 0 ≤ x_9.toInt ∧ x_9.toInt ≤ 7 := by rw [ex_9]; exact PR.ld hp_tng4_0 (by omega) (by omega) (by omega)
      obtain ⟨hP9, hD9⟩ := sub2 hP hD (ws' := [(ob, .inr (1, [.ref ob_0, .int obv1, .int obv2])), (tn, .inr (10, [.int tnv0, .int tnv1, .int tnv2, .ref tn_3, .ref tn_4, .ref tn_5, .ref tn_6, .int tnv7, .int tnv8, .ref tn_9, .ref tn_10, .int tnv11, .ref tn_12, .ref tn_13, .ref tn_14, .ref tn_15, .int tnv16, .ref tn_17, .ref tn_18, .ref tnt])), (tn_3, .inl (k 0, 10, .inl tng3)), (tn_4, .inl (k 0, 10, .inl tng4))]) [0, 1, 2, 3] (by decide +kernel) rfl
      exact W.iret (v := x_9) hx hb hr (fun tZ ht hW => ⟨⟨x_9, (), rfl, (show (-1) ≤ x_9.toInt ∧ x_9.toInt ≤ 7 from by omega), by rw [ht]; exact hP9, va_K.moved hW.alike hK, hD9⟩, hS.F ht⟩) hS.2.2 dX1_acrossLane_29
  · skip
    have zh_3 : x_2.toInt = 0 := z_eq h_3
    refine lv_iconst (v := (-1)) hx hb dX1_acrossLane_11 (by decide) ?_
    obtain ⟨hP9, hD9⟩ := sub2 hP hD (ws' := [(ob, .inr (1, [.ref ob_0, .int obv1, .int obv2])), (tn, .inr (10, [.int tnv0, .int tnv1, .int tnv2, .ref tn_3, .ref tn_4, .ref tn_5, .ref tn_6, .int tnv7, .int tnv8, .ref tn_9, .ref tn_10, .int tnv11, .ref tn_12, .ref tn_13, .ref tn_14, .ref tn_15, .int tnv16, .ref tn_17, .ref tn_18, .ref tnt])), (tn_3, .inl (k 0, 10, .inl tng3)), (tn_4, .inl (k 0, 10, .inl tng4))]) [0, 1, 2, 3] (by decide +kernel) rfl
    exact W.iret (v := (-1)) hx hb hr (fun tZ ht hW => ⟨⟨(-1), (), rfl, (show (-1) ≤ (-1) ∧ (-1) ≤ 7 from by omega), by rw [ht]; exact hP9, va_K.moved hW.alike hK, hD9⟩, hS.F ht⟩) hS.2.2 dX1_acrossLane_12
set_option maxHeartbeats 4000000 in
set_option maxRecDepth 100000 in
theorem c_X1_laneInto (l : Launch) (D : va_G) (k : Nat → ClassId) (ob : Nat) (tn : Nat) (p1 : Int32) (ob_0 : Nat) (obv1 : Int32) (obv2 : Int32) (obg0 : Nat → Int32) (tnv0 : Int32) (tnv1 : Int32) (tnv2 : Int32) (tn_3 : Nat) (tn_4 : Nat) (tn_5 : Nat) (tn_6 : Nat) (tnv7 : Int32) (tnv8 : Int32) (tn_9 : Nat) (tn_10 : Nat) (tnv11 : Int32) (tn_12 : Nat) (tn_13 : Nat) (tn_14 : Nat) (tn_15 : Nat) (tnv16 : Int32) (tn_17 : Nat) (tn_18 : Nat) (tnt : Nat) (tng3 : Nat → Int32) (tng4 : Nat → Int32) (tng5 : Nat → Int32) (tng9 : Nat → Int32) (tng10 : Nat → Int32) (sz : Nat) (h_p1 : 0 ≤ p1.toInt ∧ p1.toInt ≤ 7) (hp_obg0_0 : PR 8 1 0 0 1000000 obg0) (h_tnv0 : 0 ≤ tnv0.toInt ∧ tnv0.toInt ≤ 8) (h_tnv2 : 0 ≤ tnv2.toInt ∧ tnv2.toInt ≤ 10) (h_tnv8 : 0 ≤ tnv8.toInt ∧ tnv8.toInt ≤ 4) (h_tnv11 : 0 ≤ tnv11.toInt ∧ tnv11.toInt ≤ 6) (h_tnv16 : 0 ≤ tnv16.toInt ∧ tnv16.toInt ≤ 2) (hp_tng3_0 : PR 10 1 0 0 7 tng3) (hp_tng4_0 : PR 10 1 0 0 7 tng4) (hp_tng5_0 : PR 10 1 0 0 60 tng5) (hp_tng9_0 : PR 4 1 0 0 7 tng9) (hp_tng10_0 : PR 4 1 0 0 99 tng10) : Met l yX1_laneInto (ww yX1_laneInto cX1_laneInto 5 (some .int)) ({ frames := 1, cells := 0, slots := 0, locals := 23 }) (Pre0 D k [(ob, .inr (1, [.ref ob_0, .int obv1, .int obv2])), (ob_0, .inl (k 0, 8, .inl obg0)), (tn, .inr (10, [.int tnv0, .int tnv1, .int tnv2, .ref tn_3, .ref tn_4, .ref tn_5, .ref tn_6, .int tnv7, .int tnv8, .ref tn_9, .ref tn_10, .int tnv11, .ref tn_12, .ref tn_13, .ref tn_14, .ref tn_15, .int tnv16, .ref tn_17, .ref tn_18, .ref tnt])), (tn_3, .inl (k 0, 10, .inl tng3)), (tn_4, .inl (k 0, 10, .inl tng4)), (tn_5, .inl (k 0, 10, .inl tng5)), (tn_9, .inl (k 0, 4, .inl tng9)), (tn_10, .inl (k 0, 4, .inl tng10))] sz [.ref ob, .ref tn, .int p1]) (va_Qi (fun (r : Int32) (_ : Unit) => ((-1) ≤ r.toInt ∧ r.toInt ≤ 9)) (fun (_ : Unit) tZ => Bw D k (va_A [(ob, .inr (1, [.ref ob_0, .int obv1, .int obv2])), (ob_0, .inl (k 0, 8, .inl obg0)), (tn, .inr (10, [.int tnv0, .int tnv1, .int tnv2, .ref tn_3, .ref tn_4, .ref tn_5, .ref tn_6, .int tnv7, .int tnv8, .ref tn_9, .ref tn_10, .int tnv11, .ref tn_12, .ref tn_13, .ref tn_14, .ref tn_15, .int tnv16, .ref tn_17, .ref tn_18, .ref tnt])), (tn_3, .inl (k 0, 10, .inl tng3)), (tn_4, .inl (k 0, 10, .inl tng4)), (tn_5, .inl (k 0, 10, .inl tng5)), (tn_9, .inl (k 0, 4, .inl tng9)), (tn_10, .inl (k 0, 4, .inl tng10))] sz) [(ob, .inr (1, [.ref ob_0, .int obv1, .int obv2])), (ob_0, .inl (k 0, 8, .inl obg0)), (tn, .inr (10, [.int tnv0, .int tnv1, .int tnv2, .ref tn_3, .ref tn_4, .ref tn_5, .ref tn_6, .int tnv7, .int tnv8, .ref tn_9, .ref tn_10, .int tnv11, .ref tn_12, .ref tn_13, .ref tn_14, .ref tn_15, .int tnv16, .ref tn_17, .ref tn_18, .ref tnt])), (tn_3, .inl (k 0, 10, .inl tng3)), (tn_4, .inl (k 0, 10, .inl tng4)), (tn_5, .inl (k 0, 10, .inl tng5)), (tn_9, .inl (k 0, 4, .inl tng9)), (tn_10, .inl (k 0, 4, .inl tng10))] tZ) (va_A [(ob, .inr (1, [.ref ob_0, .int obv1, .int obv2])), (ob_0, .inl (k 0, 8, .inl obg0)), (tn, .inr (10, [.int tnv0, .int tnv1, .int tnv2, .ref tn_3, .ref tn_4, .ref tn_5, .ref tn_6, .int tnv7, .int tnv8, .ref tn_9, .ref tn_10, .int tnv11, .ref tn_12, .ref tn_13, .ref tn_14, .ref tn_15, .int tnv16, .ref tn_17, .ref tn_18, .ref tnt])), (tn_3, .inl (k 0, 10, .inl tng3)), (tn_4, .inl (k 0, 10, .inl tng4)), (tn_5, .inl (k 0, 10, .inl tng5)), (tn_9, .inl (k 0, 4, .inl tng9)), (tn_10, .inl (k 0, 4, .inl tng10))] sz)) 0 0 (va_A [(ob, .inr (1, [.ref ob_0, .int obv1, .int obv2])), (ob_0, .inl (k 0, 8, .inl obg0)), (tn, .inr (10, [.int tnv0, .int tnv1, .int tnv2, .ref tn_3, .ref tn_4, .ref tn_5, .ref tn_6, .int tnv7, .int tnv8, .ref tn_9, .ref tn_10, .int tnv11, .ref tn_12, .ref tn_13, .ref tn_14, .ref tn_15, .int tnv16, .ref tn_17, .ref tn_18, .ref tnt])), (tn_3, .inl (k 0, 10, .inl tng3)), (tn_4, .inl (k 0, 10, .inl tng4)), (tn_5, .inl (k 0, 10, .inl tng5)), (tn_9, .inl (k 0, 4, .inl tng9)), (tn_10, .inl (k 0, 4, .inl tng10))] sz) := by
  refine Met.ofW (cc := cX1_laneInto) (maxL := 5) (ret := (some .int)) (by decide +kernel) rfl ?_
  intro p e s m args below meth c s₁ B hml hv
  obtain ⟨rfl, hsz, hP, hK, hD0, hN⟩ := hv
  have hx := B.exec
  have hb := B.bytes
  have hr := B.returns
  have hts : ∀ w ∈ TT, w.before _ s = true := fun w h => atoms_spec (ws := ww yX1_laneInto cX1_laneInto 5 (some .int)) B.pre w (List.mem_cons_of_mem _ h)
  have hown : s.vm.findClass RX1 = some m.cls := findClass_of_methodNamed B.named
  have hlocks := B.notSynchronized
  subst hsz
  have hD := hD0.self (sz := s.heap.size)
  generalize hAe : va_A [(ob, .inr (1, [.ref ob_0, .int obv1, .int obv2])), (ob_0, .inl (k 0, 8, .inl obg0)), (tn, .inr (10, [.int tnv0, .int tnv1, .int tnv2, .ref tn_3, .ref tn_4, .ref tn_5, .ref tn_6, .int tnv7, .int tnv8, .ref tn_9, .ref tn_10, .int tnv11, .ref tn_12, .ref tn_13, .ref tn_14, .ref tn_15, .int tnv16, .ref tn_17, .ref tn_18, .ref tnt])), (tn_3, .inl (k 0, 10, .inl tng3)), (tn_4, .inl (k 0, 10, .inl tng4)), (tn_5, .inl (k 0, 10, .inl tng5)), (tn_9, .inl (k 0, 4, .inl tng9)), (tn_10, .inl (k 0, 4, .inl tng10))] s.heap.size = A at hD ⊢
  have hA : ∀ q : Nat, s.heap.size ≤ q → A q := fun q h => by rw [← hAe]; exact Or.inr h
  have hS : va_S A s.heap s.heap [] := va_S.rf
  have hl := lv_entry ([.ref ob, .ref tn, .int p1]) (n := 5) (Nat.le_of_ble_eq_true rfl)
  rw [lg_entry_eq]
  generalize (lg_sl ([.ref ob, .ref tn, .int p1]) ++ List.replicate (5 - (lg_sl ([.ref ob, .ref tn, .int p1])).length) Slot.unset).toArray = ls at hl ⊢
  have hl : lv_has ls 5 [(0, .ref ob), (1, .ref tn), (2, .int p1)] := hl
  refine lv_aload_n hx hb dX1_laneInto_0 rfl (lv_at hl 0 rfl) ?_
  refine va_get (D := D) (ci := 1) (v := .ref ob_0) (C := RX1) (T := TX1) (N := 3) hx hb hts iT_X1 hown hK hP 0 rfl rfl 0 (by decide) (hts _ tw_2_17) (fun _ h9 => h9) rfl dX1_laneInto_1 ?_
  refine lv_iload_n hx hb dX1_laneInto_4 rfl (lv_at hl 2 rfl) ?_
  refine va_iald hx hb hK hP 1 0 rfl rfl (z_in (by omega) (by omega)) dX1_laneInto_5 ?_
  refine lv_topi (fun x_1 ex_1 => ?_)
  have zx_1r0 : 0 ≤ x_1.toInt ∧ x_1.toInt ≤ 1000000 := by rw [ex_1]; exact PR.ld hp_obg0_0 (by omega) (by omega) (by omega)
  refine lv_ldc (v := 1000000) hx hb hown (hts _ tw_3_191) dX1_laneInto_6 ?_
  refine lv_icmp_lt (tgt := 13) hx hb dX1_laneInto_8 (by decide) (fun h_2 => ?_) (fun h_2 => ?_)
  · skip
    have zh_2 : x_1.toInt < 1000000 := z_lt h_2
    refine lv_iconst (v := 0) hx hb dX1_laneInto_13 (by decide) ?_
    refine lv_istore_n (lv' := [(3, .int 0), (0, .ref ob), (1, .ref tn), (2, .int p1)]) hx hb dX1_laneInto_14 rfl hl (by decide) rfl (fun ls hl => ?_)
    refine loop_r (Wg := fun H locs ls => W p l e _ s m _ below meth c H locs _ _ _ (F0 m 15 ls [])) (fun n9 H locs ls => ∃ (L15l3 : Int32), n9 = (4 - L15l3.toInt).toNat ∧ (0 ≤ L15l3.toInt ∧ L15l3.toInt ≤ 4) ∧ va_P D vwCl [(ob, .inr (1, [.ref ob_0, .int obv1, .int obv2])), (ob_0, .inl (k 0, 8, .inl obg0)), (tn, .inr (10, [.int tnv0, .int tnv1, .int tnv2, .ref tn_3, .ref tn_4, .ref tn_5, .ref tn_6, .int tnv7, .int tnv8, .ref tn_9, .ref tn_10, .int tnv11, .ref tn_12, .ref tn_13, .ref tn_14, .ref tn_15, .int tnv16, .ref tn_17, .ref tn_18, .ref tnt])), (tn_3, .inl (k 0, 10, .inl tng3)), (tn_4, .inl (k 0, 10, .inl tng4)), (tn_5, .inl (k 0, 10, .inl tng5)), (tn_9, .inl (k 0, 4, .inl tng9)), (tn_10, .inl (k 0, 4, .inl tng10))] H ∧ va_D A [(ob, .inr (1, [.ref ob_0, .int obv1, .int obv2])), (ob_0, .inl (k 0, 8, .inl obg0)), (tn, .inr (10, [.int tnv0, .int tnv1, .int tnv2, .ref tn_3, .ref tn_4, .ref tn_5, .ref tn_6, .int tnv7, .int tnv8, .ref tn_9, .ref tn_10, .int tnv11, .ref tn_12, .ref tn_13, .ref tn_14, .ref tn_15, .int tnv16, .ref tn_17, .ref tn_18, .ref tnt])), (tn_3, .inl (k 0, 10, .inl tng3)), (tn_4, .inl (k 0, 10, .inl tng4)), (tn_5, .inl (k 0, 10, .inl tng5)), (tn_9, .inl (k 0, 4, .inl tng9)), (tn_10, .inl (k 0, 4, .inl tng10))] ∧ va_S A s.heap H locs ∧ lv_has ls 5 [(0, .ref ob), (1, .ref tn), (2, .int p1), (3, .int L15l3)]) (fun n9 H locs ls hI ih_3 => ?_) _ _ _ _ ⟨0, rfl, (show 0 ≤ 0 ∧ 0 ≤ 4 from by omega), hP.sub (ws' := [(ob, .inr (1, [.ref ob_0, .int obv1, .int obv2])), (ob_0, .inl (k 0, 8, .inl obg0)), (tn, .inr (10, [.int tnv0, .int tnv1, .int tnv2, .ref tn_3, .ref tn_4, .ref tn_5, .ref tn_6, .int tnv7, .int tnv8, .ref tn_9, .ref tn_10, .int tnv11, .ref tn_12, .ref tn_13, .ref tn_14, .ref tn_15, .int tnv16, .ref tn_17, .ref tn_18, .ref tnt])), (tn_3, .inl (k 0, 10, .inl tng3)), (tn_4, .inl (k 0, 10, .inl tng4)), (tn_5, .inl (k 0, 10, .inl tng5)), (tn_9, .inl (k 0, 4, .inl tng9)), (tn_10, .inl (k 0, 4, .inl tng10))]) [0, 1, 2, 3, 4, 5, 6, 7] rfl, hD.sub (ws' := [(ob, .inr (1, [.ref ob_0, .int obv1, .int obv2])), (ob_0, .inl (k 0, 8, .inl obg0)), (tn, .inr (10, [.int tnv0, .int tnv1, .int tnv2, .ref tn_3, .ref tn_4, .ref tn_5, .ref tn_6, .int tnv7, .int tnv8, .ref tn_9, .ref tn_10, .int tnv11, .ref tn_12, .ref tn_13, .ref tn_14, .ref tn_15, .int tnv16, .ref tn_17, .ref tn_18, .ref tnt])), (tn_3, .inl (k 0, 10, .inl tng3)), (tn_4, .inl (k 0, 10, .inl tng4)), (tn_5, .inl (k 0, 10, .inl tng5)), (tn_9, .inl (k 0, 4, .inl tng9)), (tn_10, .inl (k 0, 4, .inl tng10))]) [0, 1, 2, 3, 4, 5, 6, 7] (by decide +kernel) rfl, hS, lv_sub hl [1, 2, 3, 0] rfl⟩
    clear hP hD hS hl
    obtain ⟨L15l3, en_4, zL15l3, hP, hD, hS, hl⟩ := hI
    refine lv_iload_n hx hb dX1_laneInto_15 rfl (lv_at hl 3 rfl) ?_
    refine lv_aload_n hx hb dX1_laneInto_16 rfl (lv_at hl 1 rfl) ?_
    refine va_get (D := D) (ci := 10) (v := .int tnv8) (C := RX10) (T := TX10) (N := 20) hx hb hts iT_X10 hown hK hP 2 rfl rfl 8 (by decide) (hts _ tw_1_104) (fun _ h9 => h9) rfl dX1_laneInto_17 ?_
    refine lv_icmp_ge (tgt := 56) hx hb dX1_laneInto_20 (by decide) (fun h_5 => ?_) (fun h_5 => ?_)
    · skip
      have zh_5 : tnv8.toInt ≤ L15l3.toInt := z_le h_5
      refine lv_iconst (v := 0) hx hb dX1_laneInto_56 (by decide) ?_
      refine lv_istore_n (lv' := [(3, .int 0), (0, .ref ob), (1, .ref tn), (2, .int p1)]) hx hb dX1_laneInto_57 rfl hl (by decide) rfl (fun ls hl => ?_)
      refine loop_r (Wg := fun H locs ls => W p l e _ s m _ below meth c H locs _ _ _ (F0 m 58 ls [])) (fun n9 H locs ls => ∃ (L58l3 : Int32), n9 = (10 - L58l3.toInt).toNat ∧ (0 ≤ L58l3.toInt ∧ L58l3.toInt ≤ 10) ∧ va_P D vwCl [(ob, .inr (1, [.ref ob_0, .int obv1, .int obv2])), (ob_0, .inl (k 0, 8, .inl obg0)), (tn, .inr (10, [.int tnv0, .int tnv1, .int tnv2, .ref tn_3, .ref tn_4, .ref tn_5, .ref tn_6, .int tnv7, .int tnv8, .ref tn_9, .ref tn_10, .int tnv11, .ref tn_12, .ref tn_13, .ref tn_14, .ref tn_15, .int tnv16, .ref tn_17, .ref tn_18, .ref tnt])), (tn_3, .inl (k 0, 10, .inl tng3)), (tn_4, .inl (k 0, 10, .inl tng4)), (tn_5, .inl (k 0, 10, .inl tng5)), (tn_9, .inl (k 0, 4, .inl tng9)), (tn_10, .inl (k 0, 4, .inl tng10))] H ∧ va_D A [(ob, .inr (1, [.ref ob_0, .int obv1, .int obv2])), (ob_0, .inl (k 0, 8, .inl obg0)), (tn, .inr (10, [.int tnv0, .int tnv1, .int tnv2, .ref tn_3, .ref tn_4, .ref tn_5, .ref tn_6, .int tnv7, .int tnv8, .ref tn_9, .ref tn_10, .int tnv11, .ref tn_12, .ref tn_13, .ref tn_14, .ref tn_15, .int tnv16, .ref tn_17, .ref tn_18, .ref tnt])), (tn_3, .inl (k 0, 10, .inl tng3)), (tn_4, .inl (k 0, 10, .inl tng4)), (tn_5, .inl (k 0, 10, .inl tng5)), (tn_9, .inl (k 0, 4, .inl tng9)), (tn_10, .inl (k 0, 4, .inl tng10))] ∧ va_S A s.heap H locs ∧ lv_has ls 5 [(0, .ref ob), (1, .ref tn), (2, .int p1), (3, .int L58l3)]) (fun n9 H locs ls hI ih_6 => ?_) _ _ _ _ ⟨0, rfl, (show 0 ≤ 0 ∧ 0 ≤ 10 from by omega), hP.sub (ws' := [(ob, .inr (1, [.ref ob_0, .int obv1, .int obv2])), (ob_0, .inl (k 0, 8, .inl obg0)), (tn, .inr (10, [.int tnv0, .int tnv1, .int tnv2, .ref tn_3, .ref tn_4, .ref tn_5, .ref tn_6, .int tnv7, .int tnv8, .ref tn_9, .ref tn_10, .int tnv11, .ref tn_12, .ref tn_13, .ref tn_14, .ref tn_15, .int tnv16, .ref tn_17, .ref tn_18, .ref tnt])), (tn_3, .inl (k 0, 10, .inl tng3)), (tn_4, .inl (k 0, 10, .inl tng4)), (tn_5, .inl (k 0, 10, .inl tng5)), (tn_9, .inl (k 0, 4, .inl tng9)), (tn_10, .inl (k 0, 4, .inl tng10))]) [0, 1, 2, 3, 4, 5, 6, 7] rfl, hD.sub (ws' := [(ob, .inr (1, [.ref ob_0, .int obv1, .int obv2])), (ob_0, .inl (k 0, 8, .inl obg0)), (tn, .inr (10, [.int tnv0, .int tnv1, .int tnv2, .ref tn_3, .ref tn_4, .ref tn_5, .ref tn_6, .int tnv7, .int tnv8, .ref tn_9, .ref tn_10, .int tnv11, .ref tn_12, .ref tn_13, .ref tn_14, .ref tn_15, .int tnv16, .ref tn_17, .ref tn_18, .ref tnt])), (tn_3, .inl (k 0, 10, .inl tng3)), (tn_4, .inl (k 0, 10, .inl tng4)), (tn_5, .inl (k 0, 10, .inl tng5)), (tn_9, .inl (k 0, 4, .inl tng9)), (tn_10, .inl (k 0, 4, .inl tng10))]) [0, 1, 2, 3, 4, 5, 6, 7] (by decide +kernel) rfl, hS, lv_sub hl [1, 2, 3, 0] rfl⟩
      clear hP hD hS hl
      obtain ⟨L58l3, en_7, zL58l3, hP, hD, hS, hl⟩ := hI
      refine lv_iload_n hx hb dX1_laneInto_58 rfl (lv_at hl 3 rfl) ?_
      refine lv_aload_n hx hb dX1_laneInto_59 rfl (lv_at hl 1 rfl) ?_
      refine va_get (D := D) (ci := 10) (v := .int tnv2) (C := RX10) (T := TX10) (N := 20) hx hb hts iT_X10 hown hK hP 2 rfl rfl 2 (by decide) (hts _ tw_1_81) (fun _ h9 => h9) rfl dX1_laneInto_60 ?_
      refine lv_icmp_ge (tgt := 112) hx hb dX1_laneInto_63 (by decide) (fun h_8 => ?_) (fun h_8 => ?_)
      · skip
        have zh_8 : tnv2.toInt ≤ L58l3.toInt := z_le h_8
        refine lv_iconst (v := (-1)) hx hb dX1_laneInto_112 (by decide) ?_
        obtain ⟨hP9, hD9⟩ := sub2 hP hD (ws' := [(ob, .inr (1, [.ref ob_0, .int obv1, .int obv2])), (ob_0, .inl (k 0, 8, .inl obg0)), (tn, .inr (10, [.int tnv0, .int tnv1, .int tnv2, .ref tn_3, .ref tn_4, .ref tn_5, .ref tn_6, .int tnv7, .int tnv8, .ref tn_9, .ref tn_10, .int tnv11, .ref tn_12, .ref tn_13, .ref tn_14, .ref tn_15, .int tnv16, .ref tn_17, .ref tn_18, .ref tnt])), (tn_3, .inl (k 0, 10, .inl tng3)), (tn_4, .inl (k 0, 10, .inl tng4)), (tn_5, .inl (k 0, 10, .inl tng5)), (tn_9, .inl (k 0, 4, .inl tng9)), (tn_10, .inl (k 0, 4, .inl tng10))]) [0, 1, 2, 3, 4, 5, 6, 7] (by decide +kernel) rfl
        exact W.iret (v := (-1)) hx hb hr (fun tZ ht hW => ⟨⟨(-1), (), rfl, (show (-1) ≤ (-1) ∧ (-1) ≤ 9 from by omega), by rw [ht]; exact hP9, va_K.moved hW.alike hK, hD9⟩, hS.F ht⟩) hS.2.2 dX1_laneInto_113
      · skip
        have zh_8 : L58l3.toInt < tnv2.toInt := z_nle h_8
        refine lv_aload_n hx hb dX1_laneInto_66 rfl (lv_at hl 0 rfl) ?_
        refine lv_aload_n hx hb dX1_laneInto_67 rfl (lv_at hl 1 rfl) ?_
        refine lv_iload_n hx hb dX1_laneInto_68 rfl (lv_at hl 3 rfl) ?_
        refine lv_iload_n hx hb dX1_laneInto_69 rfl (lv_at hl 2 rfl) ?_
        obtain ⟨hPc, hDc, hFc⟩ := sub3 hP hD hS hA (ws' := [(ob, .inr (1, [.ref ob_0, .int obv1, .int obv2])), (tn, .inr (10, [.int tnv0, .int tnv1, .int tnv2, .ref tn_3, .ref tn_4, .ref tn_5, .ref tn_6, .int tnv7, .int tnv8, .ref tn_9, .ref tn_10, .int tnv11, .ref tn_12, .ref tn_13, .ref tn_14, .ref tn_15, .int tnv16, .ref tn_17, .ref tn_18, .ref tnt])), (tn_3, .inl (k 0, 10, .inl tng3)), (tn_4, .inl (k 0, 10, .inl tng4))]) [0, 2, 3, 4] (by decide +kernel) rfl
        refine va_calli (va_runV (C := RX1) (As := [.ref tn, .int L58l3, .int p1]) (rest := []) ⟨hx, hb, hml, hown, hts⟩ (c_X1_acrossLane l D k ob tn L58l3 p1 ob_0 obv1 obv2 tnv0 tnv1 tnv2 tn_3 tn_4 tn_5 tn_6 tnv7 tnv8 tn_9 tn_10 tnv11 tn_12 tn_13 tn_14 tn_15 tnv16 tn_17 tn_18 tnt tng3 tng4 H.size (show 0 ≤ L58l3.toInt ∧ L58l3.toInt ≤ 9 from by omega) (show 0 ≤ tnv0.toInt ∧ tnv0.toInt ≤ 8 from by omega) (show 0 ≤ tnv2.toInt ∧ tnv2.toInt ≤ 10 from by omega) (show 0 ≤ tnv8.toInt ∧ tnv8.toInt ≤ 4 from by omega) (show 0 ≤ tnv11.toInt ∧ tnv11.toInt ≤ 6 from by omega) (show 0 ≤ tnv16.toInt ∧ tnv16.toInt ≤ 2 from by omega) hp_tng3_0 hp_tng4_0) (cwV 3 hts (gV tw_3_227 tw_3_229 tw_p_22 tw_1_6 tw_3_230) rfl rfl rfl hdV_X1_acrossLane ⟨Nat.le_of_ble_eq_true rfl, Nat.le_of_ble_eq_true rfl⟩) (cz_V hK hPc hDc hN (ci := 1) (q0 := 0) rfl rfl [.ref tn, .int L58l3, .int p1]) rfl rfl hl.1 rfl (lv_room (Nat.le_of_ble_eq_true rfl)) dX1_laneInto_70 ⟨Nat.le_of_ble_eq_true rfl, Nat.le_of_ble_eq_true rfl⟩) hS (fun q _ h => hFc q h) hFc (fun r_9 uZ tZ H1 locs ht hvm hw hB hz1 hk1 hS => ?_)
        obtain ⟨hP1, hK1, hD1⟩ := hB
        rw [ht] at hP1
        obtain ⟨hP, hD⟩ := va_join (wr := [(ob_0, .inl (k 0, 8, .inl obg0)), (tn_5, .inl (k 0, 10, .inl tng5)), (tn_9, .inl (k 0, 4, .inl tng9)), (tn_10, .inl (k 0, 4, .inl tng10))]) (w1 := [(ob, .inr (1, [.ref ob_0, .int obv1, .int obv2])), (tn, .inr (10, [.int tnv0, .int tnv1, .int tnv2, .ref tn_3, .ref tn_4, .ref tn_5, .ref tn_6, .int tnv7, .int tnv8, .ref tn_9, .ref tn_10, .int tnv11, .ref tn_12, .ref tn_13, .ref tn_14, .ref tn_15, .int tnv16, .ref tn_17, .ref tn_18, .ref tnt])), (tn_3, .inl (k 0, 10, .inl tng3)), (tn_4, .inl (k 0, 10, .inl tng4))]) hP hD [0, 2, 3, 4] [1, 5, 6, 7] rfl rfl (by decide +kernel) (by decide +kernel) hk1 hFc hP1 hD1
        clear hK1 hP1 hD1 hPc hDc hFc
        clear hk1 hz1 ht hvm
        have hP : va_P D vwCl [(ob_0, .inl (k 0, 8, .inl obg0)), (tn_5, .inl (k 0, 10, .inl tng5)), (tn_9, .inl (k 0, 4, .inl tng9)), (tn_10, .inl (k 0, 4, .inl tng10)), (ob, .inr (1, [.ref ob_0, .int obv1, .int obv2])), (tn, .inr (10, [.int tnv0, .int tnv1, .int tnv2, .ref tn_3, .ref tn_4, .ref tn_5, .ref tn_6, .int tnv7, .int tnv8, .ref tn_9, .ref tn_10, .int tnv11, .ref tn_12, .ref tn_13, .ref tn_14, .ref tn_15, .int tnv16, .ref tn_17, .ref tn_18, .ref tnt])), (tn_3, .inl (k 0, 10, .inl tng3)), (tn_4, .inl (k 0, 10, .inl tng4))] H1 := hP
        have hD : va_D A [(ob_0, .inl (k 0, 8, .inl obg0)), (tn_5, .inl (k 0, 10, .inl tng5)), (tn_9, .inl (k 0, 4, .inl tng9)), (tn_10, .inl (k 0, 4, .inl tng10)), (ob, .inr (1, [.ref ob_0, .int obv1, .int obv2])), (tn, .inr (10, [.int tnv0, .int tnv1, .int tnv2, .ref tn_3, .ref tn_4, .ref tn_5, .ref tn_6, .int tnv7, .int tnv8, .ref tn_9, .ref tn_10, .int tnv11, .ref tn_12, .ref tn_13, .ref tn_14, .ref tn_15, .int tnv16, .ref tn_17, .ref tn_18, .ref tnt])), (tn_3, .inl (k 0, 10, .inl tng3)), (tn_4, .inl (k 0, 10, .inl tng4))] := hD
        generalize H1 = H at hP hS ⊢
        have hw_10 : ((-1) ≤ r_9.toInt ∧ r_9.toInt ≤ 7) := hw
        have hw_11 := hw_10
        clear hw
        refine lv_istore (lv' := [(4, .int r_9), (0, .ref ob), (1, .ref tn), (2, .int p1), (3, .int L58l3)]) hx hb dX1_laneInto_73 hl (by decide) rfl (fun ls hl => ?_)
        refine lv_iload hx hb dX1_laneInto_75 (lv_at hl 0 rfl) ?_
        refine lv_iconst (v := (-1)) hx hb dX1_laneInto_77 (by decide) ?_
        refine lv_icmp_eq (tgt := 106) hx hb dX1_laneInto_78 (by decide) (fun h_12 => ?_) (fun h_12 => ?_)
        · skip
          have zh_12 : r_9.toInt = (-1) := z_eq h_12
          obtain ⟨x_13, ex_13⟩ : ∃ y : Int32, y = L58l3 + 1 := ⟨_, rfl⟩
          have zx_13 : x_13.toInt = L58l3.toInt + 1 := by rw [ex_13]; exact z_add rfl rfl (by omega) (by omega)
          refine lv_iinc (v := x_13) (lv' := [(3, .int x_13), (4, .int r_9), (0, .ref ob), (1, .ref tn), (2, .int p1)]) hx hb dX1_laneInto_106 hl (k := 4) rfl (by rw [ex_13]; rfl) (by decide) rfl (fun ls hl => ?_)
          refine lv_goto (tgt := 58) hx hb dX1_laneInto_109 (by decide) ?_
          exact ih_6 _ _ _ _ (by omega) ⟨x_13, rfl, (show 0 ≤ x_13.toInt ∧ x_13.toInt ≤ 10 from by omega), hP.sub (ws' := [(ob, .inr (1, [.ref ob_0, .int obv1, .int obv2])), (ob_0, .inl (k 0, 8, .inl obg0)), (tn, .inr (10, [.int tnv0, .int tnv1, .int tnv2, .ref tn_3, .ref tn_4, .ref tn_5, .ref tn_6, .int tnv7, .int tnv8, .ref tn_9, .ref tn_10, .int tnv11, .ref tn_12, .ref tn_13, .ref tn_14, .ref tn_15, .int tnv16, .ref tn_17, .ref tn_18, .ref tnt])), (tn_3, .inl (k 0, 10, .inl tng3)), (tn_4, .inl (k 0, 10, .inl tng4)), (tn_5, .inl (k 0, 10, .inl tng5)), (tn_9, .inl (k 0, 4, .inl tng9)), (tn_10, .inl (k 0, 4, .inl tng10))]) [4, 0, 5, 6, 7, 1, 2, 3] rfl, hD.sub (ws' := [(ob, .inr (1, [.ref ob_0, .int obv1, .int obv2])), (ob_0, .inl (k 0, 8, .inl obg0)), (tn, .inr (10, [.int tnv0, .int tnv1, .int tnv2, .ref tn_3, .ref tn_4, .ref tn_5, .ref tn_6, .int tnv7, .int tnv8, .ref tn_9, .ref tn_10, .int tnv11, .ref tn_12, .ref tn_13, .ref tn_14, .ref tn_15, .int tnv16, .ref tn_17, .ref tn_18, .ref tnt])), (tn_3, .inl (k 0, 10, .inl tng3)), (tn_4, .inl (k 0, 10, .inl tng4)), (tn_5, .inl (k 0, 10, .inl tng5)), (tn_9, .inl (k 0, 4, .inl tng9)), (tn_10, .inl (k 0, 4, .inl tng10))]) [4, 0, 5, 6, 7, 1, 2, 3] (by decide +kernel) rfl, hS, lv_sub hl [2, 3, 4, 0] rfl⟩
        · skip
          have zh_12 : ¬ r_9.toInt = (-1) := z_ne h_12
          refine lv_aload_n hx hb dX1_laneInto_81 rfl (lv_at hl 1 rfl) ?_
          refine va_get (D := D) (ci := 1) (v := .ref ob_0) (C := RX1) (T := TX1) (N := 3) hx hb hts iT_X1 hown hK hP 4 rfl rfl 0 (by decide) (hts _ tw_2_17) (fun _ h9 => h9) rfl dX1_laneInto_82 ?_
          refine lv_iload hx hb dX1_laneInto_85 (lv_at hl 0 rfl) ?_
          refine va_iald hx hb hK hP 0 0 rfl rfl (z_in (by omega) (by omega)) dX1_laneInto_87 ?_
          refine lv_topi (fun x_14 ex_14 => ?_)
          have zx_14r0 : 0 ≤ x_14.toInt ∧ x_14.toInt ≤ 1000000 := by rw [ex_14]; exact PR.ld hp_obg0_0 (by omega) (by omega) (by omega)
          refine lv_aload_n hx hb dX1_laneInto_88 rfl (lv_at hl 1 rfl) ?_
          refine lv_aload_n hx hb dX1_laneInto_89 rfl (lv_at hl 2 rfl) ?_
          refine lv_iload_n hx hb dX1_laneInto_90 rfl (lv_at hl 4 rfl) ?_
          obtain ⟨hPc, hDc, hFc⟩ := sub3 hP hD hS hA (ws' := [(ob, .inr (1, [.ref ob_0, .int obv1, .int obv2])), (tn, .inr (10, [.int tnv0, .int tnv1, .int tnv2, .ref tn_3, .ref tn_4, .ref tn_5, .ref tn_6, .int tnv7, .int tnv8, .ref tn_9, .ref tn_10, .int tnv11, .ref tn_12, .ref tn_13, .ref tn_14, .ref tn_15, .int tnv16, .ref tn_17, .ref tn_18, .ref tnt])), (tn_5, .inl (k 0, 10, .inl tng5))]) [4, 5, 1] (by decide +kernel) rfl
          refine va_calli (va_runV (C := RX1) (As := [.ref tn, .int L58l3]) (rest := [.int x_14]) ⟨hx, hb, hml, hown, hts⟩ (c_X1_minutesOf l D k ob tn L58l3 ob_0 obv1 obv2 tnv0 tnv1 tnv2 tn_3 tn_4 tn_5 tn_6 tnv7 tnv8 tn_9 tn_10 tnv11 tn_12 tn_13 tn_14 tn_15 tnv16 tn_17 tn_18 tnt tng5 H.size (show 0 ≤ L58l3.toInt ∧ L58l3.toInt ≤ 9 from by omega) (show 0 ≤ tnv0.toInt ∧ tnv0.toInt ≤ 8 from by omega) (show 0 ≤ tnv2.toInt ∧ tnv2.toInt ≤ 10 from by omega) (show 0 ≤ tnv8.toInt ∧ tnv8.toInt ≤ 4 from by omega) (show 0 ≤ tnv11.toInt ∧ tnv11.toInt ≤ 6 from by omega) (show 0 ≤ tnv16.toInt ∧ tnv16.toInt ≤ 2 from by omega) hp_tng5_0) (cwV 2 hts (gV tw_3_203 tw_3_205 tw_p_21 tw_1_6 tw_3_206) rfl rfl rfl hdV_X1_minutesOf ⟨Nat.le_of_ble_eq_true rfl, Nat.le_of_ble_eq_true rfl⟩) (cz_V hK hPc hDc hN (ci := 1) (q0 := 0) rfl rfl [.ref tn, .int L58l3]) rfl rfl hl.1 rfl (lv_room (Nat.le_of_ble_eq_true rfl)) dX1_laneInto_91 ⟨Nat.le_of_ble_eq_true rfl, Nat.le_of_ble_eq_true rfl⟩) hS (fun q _ h => hFc q h) hFc (fun r_15 uZ tZ H1 locs ht hvm hw hB hz1 hk1 hS => ?_)
          obtain ⟨hP1, hK1, hD1⟩ := hB
          rw [ht] at hP1
          obtain ⟨hP, hD⟩ := va_join (wr := [(ob_0, .inl (k 0, 8, .inl obg0)), (tn_9, .inl (k 0, 4, .inl tng9)), (tn_10, .inl (k 0, 4, .inl tng10)), (tn_3, .inl (k 0, 10, .inl tng3)), (tn_4, .inl (k 0, 10, .inl tng4))]) (w1 := [(ob, .inr (1, [.ref ob_0, .int obv1, .int obv2])), (tn, .inr (10, [.int tnv0, .int tnv1, .int tnv2, .ref tn_3, .ref tn_4, .ref tn_5, .ref tn_6, .int tnv7, .int tnv8, .ref tn_9, .ref tn_10, .int tnv11, .ref tn_12, .ref tn_13, .ref tn_14, .ref tn_15, .int tnv16, .ref tn_17, .ref tn_18, .ref tnt])), (tn_5, .inl (k 0, 10, .inl tng5))]) hP hD [4, 5, 1] [0, 2, 3, 6, 7] rfl rfl (by decide +kernel) (by decide +kernel) hk1 hFc hP1 hD1
          clear hK1 hP1 hD1 hPc hDc hFc
          clear hk1 hz1 ht hvm
          have hP : va_P D vwCl [(ob_0, .inl (k 0, 8, .inl obg0)), (tn_9, .inl (k 0, 4, .inl tng9)), (tn_10, .inl (k 0, 4, .inl tng10)), (tn_3, .inl (k 0, 10, .inl tng3)), (tn_4, .inl (k 0, 10, .inl tng4)), (ob, .inr (1, [.ref ob_0, .int obv1, .int obv2])), (tn, .inr (10, [.int tnv0, .int tnv1, .int tnv2, .ref tn_3, .ref tn_4, .ref tn_5, .ref tn_6, .int tnv7, .int tnv8, .ref tn_9, .ref tn_10, .int tnv11, .ref tn_12, .ref tn_13, .ref tn_14, .ref tn_15, .int tnv16, .ref tn_17, .ref tn_18, .ref tnt])), (tn_5, .inl (k 0, 10, .inl tng5))] H1 := hP
          have hD : va_D A [(ob_0, .inl (k 0, 8, .inl obg0)), (tn_9, .inl (k 0, 4, .inl tng9)), (tn_10, .inl (k 0, 4, .inl tng10)), (tn_3, .inl (k 0, 10, .inl tng3)), (tn_4, .inl (k 0, 10, .inl tng4)), (ob, .inr (1, [.ref ob_0, .int obv1, .int obv2])), (tn, .inr (10, [.int tnv0, .int tnv1, .int tnv2, .ref tn_3, .ref tn_4, .ref tn_5, .ref tn_6, .int tnv7, .int tnv8, .ref tn_9, .ref tn_10, .int tnv11, .ref tn_12, .ref tn_13, .ref tn_14, .ref tn_15, .int tnv16, .ref tn_17, .ref tn_18, .ref tnt])), (tn_5, .inl (k 0, 10, .inl tng5))] := hD
          generalize H1 = H at hP hS ⊢
          have hw_16 : (0 ≤ r_15.toInt ∧ r_15.toInt ≤ 70) := hw
          have hw_17 := hw_16
          clear hw
          refine lv_iadd hx hb dX1_laneInto_94 ?_
          refine lv_topi (fun x_18 ex_18 => ?_)
          have zx_18 : x_18.toInt = x_14.toInt + r_15.toInt := by rw [ex_18]; exact z_add rfl rfl (by omega) (by omega)
          refine lv_aload_n hx hb dX1_laneInto_95 rfl (lv_at hl 1 rfl) ?_
          refine va_get (D := D) (ci := 1) (v := .ref ob_0) (C := RX1) (T := TX1) (N := 3) hx hb hts iT_X1 hown hK hP 5 rfl rfl 0 (by decide) (hts _ tw_2_17) (fun _ h9 => h9) rfl dX1_laneInto_96 ?_
          refine lv_iload_n hx hb dX1_laneInto_99 rfl (lv_at hl 3 rfl) ?_
          refine va_iald hx hb hK hP 0 0 rfl rfl (z_in (by omega) (by omega)) dX1_laneInto_100 ?_
          refine lv_topi (fun x_19 ex_19 => ?_)
          obtain rfl : x_1 = x_19 := ex_1.trans ex_19.symm
          refine lv_icmp_ne (tgt := 106) hx hb dX1_laneInto_101 (by decide) (fun h_20 => ?_) (fun h_20 => ?_)
          · skip
            have zh_20 : ¬ x_18.toInt = x_1.toInt := z_ne h_20
            obtain ⟨x_21, ex_21⟩ : ∃ y : Int32, y = L58l3 + 1 := ⟨_, rfl⟩
            have zx_21 : x_21.toInt = L58l3.toInt + 1 := by rw [ex_21]; exact z_add rfl rfl (by omega) (by omega)
            refine lv_iinc (v := x_21) (lv' := [(3, .int x_21), (4, .int r_9), (0, .ref ob), (1, .ref tn), (2, .int p1)]) hx hb dX1_laneInto_106 hl (k := 4) rfl (by rw [ex_21]; rfl) (by decide) rfl (fun ls hl => ?_)
            refine lv_goto (tgt := 58) hx hb dX1_laneInto_109 (by decide) ?_
            exact ih_6 _ _ _ _ (by omega) ⟨x_21, rfl, (show 0 ≤ x_21.toInt ∧ x_21.toInt ≤ 10 from by omega), hP.sub (ws' := [(ob, .inr (1, [.ref ob_0, .int obv1, .int obv2])), (ob_0, .inl (k 0, 8, .inl obg0)), (tn, .inr (10, [.int tnv0, .int tnv1, .int tnv2, .ref tn_3, .ref tn_4, .ref tn_5, .ref tn_6, .int tnv7, .int tnv8, .ref tn_9, .ref tn_10, .int tnv11, .ref tn_12, .ref tn_13, .ref tn_14, .ref tn_15, .int tnv16, .ref tn_17, .ref tn_18, .ref tnt])), (tn_3, .inl (k 0, 10, .inl tng3)), (tn_4, .inl (k 0, 10, .inl tng4)), (tn_5, .inl (k 0, 10, .inl tng5)), (tn_9, .inl (k 0, 4, .inl tng9)), (tn_10, .inl (k 0, 4, .inl tng10))]) [5, 0, 6, 3, 4, 7, 1, 2] rfl, hD.sub (ws' := [(ob, .inr (1, [.ref ob_0, .int obv1, .int obv2])), (ob_0, .inl (k 0, 8, .inl obg0)), (tn, .inr (10, [.int tnv0, .int tnv1, .int tnv2, .ref tn_3, .ref tn_4, .ref tn_5, .ref tn_6, .int tnv7, .int tnv8, .ref tn_9, .ref tn_10, .int tnv11, .ref tn_12, .ref tn_13, .ref tn_14, .ref tn_15, .int tnv16, .ref tn_17, .ref tn_18, .ref tnt])), (tn_3, .inl (k 0, 10, .inl tng3)), (tn_4, .inl (k 0, 10, .inl tng4)), (tn_5, .inl (k 0, 10, .inl tng5)), (tn_9, .inl (k 0, 4, .inl tng9)), (tn_10, .inl (k 0, 4, .inl tng10))]) [5, 0, 6, 3, 4, 7, 1, 2] (by decide +kernel) rfl, hS, lv_sub hl [2, 3, 4, 0] rfl⟩
          · skip
            have zh_20 : x_18.toInt = x_1.toInt := z_eq h_20
            refine lv_iload_n hx hb dX1_laneInto_104 rfl (lv_at hl 4 rfl) ?_
            obtain ⟨hP9, hD9⟩ := sub2 hP hD (ws' := [(ob, .inr (1, [.ref ob_0, .int obv1, .int obv2])), (ob_0, .inl (k 0, 8, .inl obg0)), (tn, .inr (10, [.int tnv0, .int tnv1, .int tnv2, .ref tn_3, .ref tn_4, .ref tn_5, .ref tn_6, .int tnv7, .int tnv8, .ref tn_9, .ref tn_10, .int tnv11, .ref tn_12, .ref tn_13, .ref tn_14, .ref tn_15, .int tnv16, .ref tn_17, .ref tn_18, .ref tnt])), (tn_3, .inl (k 0, 10, .inl tng3)), (tn_4, .inl (k 0, 10, .inl tng4)), (tn_5, .inl (k 0, 10, .inl tng5)), (tn_9, .inl (k 0, 4, .inl tng9)), (tn_10, .inl (k 0, 4, .inl tng10))]) [5, 0, 6, 3, 4, 7, 1, 2] (by decide +kernel) rfl
            exact W.iret (v := L58l3) hx hb hr (fun tZ ht hW => ⟨⟨L58l3, (), rfl, (show (-1) ≤ L58l3.toInt ∧ L58l3.toInt ≤ 9 from by omega), by rw [ht]; exact hP9, va_K.moved hW.alike hK, hD9⟩, hS.F ht⟩) hS.2.2 dX1_laneInto_105
    · skip
      have zh_5 : L15l3.toInt < tnv8.toInt := z_nle h_5
      refine lv_aload_n hx hb dX1_laneInto_23 rfl (lv_at hl 1 rfl) ?_
      refine va_get (D := D) (ci := 10) (v := .ref tn_9) (C := RX10) (T := TX10) (N := 20) hx hb hts iT_X10 hown hK hP 2 rfl rfl 9 (by decide) (hts _ tw_1_111) (fun _ h9 => h9) rfl dX1_laneInto_24 ?_
      refine lv_iload_n hx hb dX1_laneInto_27 rfl (lv_at hl 3 rfl) ?_
      refine va_iald hx hb hK hP 6 0 rfl rfl (z_in (by omega) (by omega)) dX1_laneInto_28 ?_
      refine lv_topi (fun x_22 ex_22 => ?_)
      have zx_22r0 : 0 ≤ x_22.toInt ∧ x_22.toInt ≤ 7 := by rw [ex_22]; exact PR.ld hp_tng9_0 (by omega) (by omega) (by omega)
      refine lv_iload_n hx hb dX1_laneInto_29 rfl (lv_at hl 2 rfl) ?_
      refine lv_icmp_ne (tgt := 50) hx hb dX1_laneInto_30 (by decide) (fun h_23 => ?_) (fun h_23 => ?_)
      · skip
        have zh_23 : ¬ x_22.toInt = p1.toInt := z_ne h_23
        obtain ⟨x_24, ex_24⟩ : ∃ y : Int32, y = L15l3 + 1 := ⟨_, rfl⟩
        have zx_24 : x_24.toInt = L15l3.toInt + 1 := by rw [ex_24]; exact z_add rfl rfl (by omega) (by omega)
        refine lv_iinc (v := x_24) (lv' := [(3, .int x_24), (0, .ref ob), (1, .ref tn), (2, .int p1)]) hx hb dX1_laneInto_50 hl (k := 3) rfl (by rw [ex_24]; rfl) (by decide) rfl (fun ls hl => ?_)
        refine lv_goto (tgt := 15) hx hb dX1_laneInto_53 (by decide) ?_
        exact ih_3 _ _ _ _ (by omega) ⟨x_24, rfl, (show 0 ≤ x_24.toInt ∧ x_24.toInt ≤ 4 from by omega), hP.sub (ws' := [(ob, .inr (1, [.ref ob_0, .int obv1, .int obv2])), (ob_0, .inl (k 0, 8, .inl obg0)), (tn, .inr (10, [.int tnv0, .int tnv1, .int tnv2, .ref tn_3, .ref tn_4, .ref tn_5, .ref tn_6, .int tnv7, .int tnv8, .ref tn_9, .ref tn_10, .int tnv11, .ref tn_12, .ref tn_13, .ref tn_14, .ref tn_15, .int tnv16, .ref tn_17, .ref tn_18, .ref tnt])), (tn_3, .inl (k 0, 10, .inl tng3)), (tn_4, .inl (k 0, 10, .inl tng4)), (tn_5, .inl (k 0, 10, .inl tng5)), (tn_9, .inl (k 0, 4, .inl tng9)), (tn_10, .inl (k 0, 4, .inl tng10))]) [0, 1, 2, 3, 4, 5, 6, 7] rfl, hD.sub (ws' := [(ob, .inr (1, [.ref ob_0, .int obv1, .int obv2])), (ob_0, .inl (k 0, 8, .inl obg0)), (tn, .inr (10, [.int tnv0, .int tnv1, .int tnv2, .ref tn_3, .ref tn_4, .ref tn_5, .ref tn_6, .int tnv7, .int tnv8, .ref tn_9, .ref tn_10, .int tnv11, .ref tn_12, .ref tn_13, .ref tn_14, .ref tn_15, .int tnv16, .ref tn_17, .ref tn_18, .ref tnt])), (tn_3, .inl (k 0, 10, .inl tng3)), (tn_4, .inl (k 0, 10, .inl tng4)), (tn_5, .inl (k 0, 10, .inl tng5)), (tn_9, .inl (k 0, 4, .inl tng9)), (tn_10, .inl (k 0, 4, .inl tng10))]) [0, 1, 2, 3, 4, 5, 6, 7] (by decide +kernel) rfl, hS, lv_sub hl [1, 2, 3, 0] rfl⟩
      · skip
        have zh_23 : x_22.toInt = p1.toInt := z_eq h_23
        refine lv_aload_n hx hb dX1_laneInto_33 rfl (lv_at hl 1 rfl) ?_
        refine va_get (D := D) (ci := 10) (v := .ref tn_10) (C := RX10) (T := TX10) (N := 20) hx hb hts iT_X10 hown hK hP 2 rfl rfl 10 (by decide) (hts _ tw_1_115) (fun _ h9 => h9) rfl dX1_laneInto_34 ?_
        refine lv_iload_n hx hb dX1_laneInto_37 rfl (lv_at hl 3 rfl) ?_
        refine va_iald hx hb hK hP 7 0 rfl rfl (z_in (by omega) (by omega)) dX1_laneInto_38 ?_
        refine lv_topi (fun x_25 ex_25 => ?_)
        have zx_25r0 : 0 ≤ x_25.toInt ∧ x_25.toInt ≤ 99 := by rw [ex_25]; exact PR.ld hp_tng10_0 (by omega) (by omega) (by omega)
        refine lv_aload_n hx hb dX1_laneInto_39 rfl (lv_at hl 0 rfl) ?_
        refine va_get (D := D) (ci := 1) (v := .ref ob_0) (C := RX1) (T := TX1) (N := 3) hx hb hts iT_X1 hown hK hP 0 rfl rfl 0 (by decide) (hts _ tw_2_17) (fun _ h9 => h9) rfl dX1_laneInto_40 ?_
        refine lv_iload_n hx hb dX1_laneInto_43 rfl (lv_at hl 2 rfl) ?_
        refine va_iald hx hb hK hP 1 0 rfl rfl (z_in (by omega) (by omega)) dX1_laneInto_44 ?_
        refine lv_topi (fun x_26 ex_26 => ?_)
        obtain rfl : x_1 = x_26 := ex_1.trans ex_26.symm
        refine lv_icmp_ne (tgt := 50) hx hb dX1_laneInto_45 (by decide) (fun h_27 => ?_) (fun h_27 => ?_)
        · skip
          have zh_27 : ¬ x_25.toInt = x_1.toInt := z_ne h_27
          obtain ⟨x_28, ex_28⟩ : ∃ y : Int32, y = L15l3 + 1 := ⟨_, rfl⟩
          have zx_28 : x_28.toInt = L15l3.toInt + 1 := by rw [ex_28]; exact z_add rfl rfl (by omega) (by omega)
          refine lv_iinc (v := x_28) (lv' := [(3, .int x_28), (0, .ref ob), (1, .ref tn), (2, .int p1)]) hx hb dX1_laneInto_50 hl (k := 3) rfl (by rw [ex_28]; rfl) (by decide) rfl (fun ls hl => ?_)
          refine lv_goto (tgt := 15) hx hb dX1_laneInto_53 (by decide) ?_
          exact ih_3 _ _ _ _ (by omega) ⟨x_28, rfl, (show 0 ≤ x_28.toInt ∧ x_28.toInt ≤ 4 from by omega), hP.sub (ws' := [(ob, .inr (1, [.ref ob_0, .int obv1, .int obv2])), (ob_0, .inl (k 0, 8, .inl obg0)), (tn, .inr (10, [.int tnv0, .int tnv1, .int tnv2, .ref tn_3, .ref tn_4, .ref tn_5, .ref tn_6, .int tnv7, .int tnv8, .ref tn_9, .ref tn_10, .int tnv11, .ref tn_12, .ref tn_13, .ref tn_14, .ref tn_15, .int tnv16, .ref tn_17, .ref tn_18, .ref tnt])), (tn_3, .inl (k 0, 10, .inl tng3)), (tn_4, .inl (k 0, 10, .inl tng4)), (tn_5, .inl (k 0, 10, .inl tng5)), (tn_9, .inl (k 0, 4, .inl tng9)), (tn_10, .inl (k 0, 4, .inl tng10))]) [0, 1, 2, 3, 4, 5, 6, 7] rfl, hD.sub (ws' := [(ob, .inr (1, [.ref ob_0, .int obv1, .int obv2])), (ob_0, .inl (k 0, 8, .inl obg0)), (tn, .inr (10, [.int tnv0, .int tnv1, .int tnv2, .ref tn_3, .ref tn_4, .ref tn_5, .ref tn_6, .int tnv7, .int tnv8, .ref tn_9, .ref tn_10, .int tnv11, .ref tn_12, .ref tn_13, .ref tn_14, .ref tn_15, .int tnv16, .ref tn_17, .ref tn_18, .ref tnt])), (tn_3, .inl (k 0, 10, .inl tng3)), (tn_4, .inl (k 0, 10, .inl tng4)), (tn_5, .inl (k 0, 10, .inl tng5)), (tn_9, .inl (k 0, 4, .inl tng9)), (tn_10, .inl (k 0, 4, .inl tng10))]) [0, 1, 2, 3, 4, 5, 6, 7] (by decide +kernel) rfl, hS, lv_sub hl [1, 2, 3, 0] rfl⟩
        · skip
          have zh_27 : x_25.toInt = x_1.toInt := z_eq h_27
          refine lv_iconst (v := (-1)) hx hb dX1_laneInto_48 (by decide) ?_
          obtain ⟨hP9, hD9⟩ := sub2 hP hD (ws' := [(ob, .inr (1, [.ref ob_0, .int obv1, .int obv2])), (ob_0, .inl (k 0, 8, .inl obg0)), (tn, .inr (10, [.int tnv0, .int tnv1, .int tnv2, .ref tn_3, .ref tn_4, .ref tn_5, .ref tn_6, .int tnv7, .int tnv8, .ref tn_9, .ref tn_10, .int tnv11, .ref tn_12, .ref tn_13, .ref tn_14, .ref tn_15, .int tnv16, .ref tn_17, .ref tn_18, .ref tnt])), (tn_3, .inl (k 0, 10, .inl tng3)), (tn_4, .inl (k 0, 10, .inl tng4)), (tn_5, .inl (k 0, 10, .inl tng5)), (tn_9, .inl (k 0, 4, .inl tng9)), (tn_10, .inl (k 0, 4, .inl tng10))]) [0, 1, 2, 3, 4, 5, 6, 7] (by decide +kernel) rfl
          exact W.iret (v := (-1)) hx hb hr (fun tZ ht hW => ⟨⟨(-1), (), rfl, (show (-1) ≤ (-1) ∧ (-1) ≤ 9 from by omega), by rw [ht]; exact hP9, va_K.moved hW.alike hK, hD9⟩, hS.F ht⟩) hS.2.2 dX1_laneInto_49
  · skip
    have zh_2 : 1000000 ≤ x_1.toInt := z_nlt h_2
    refine lv_iconst (v := (-1)) hx hb dX1_laneInto_11 (by decide) ?_
    obtain ⟨hP9, hD9⟩ := sub2 hP hD (ws' := [(ob, .inr (1, [.ref ob_0, .int obv1, .int obv2])), (ob_0, .inl (k 0, 8, .inl obg0)), (tn, .inr (10, [.int tnv0, .int tnv1, .int tnv2, .ref tn_3, .ref tn_4, .ref tn_5, .ref tn_6, .int tnv7, .int tnv8, .ref tn_9, .ref tn_10, .int tnv11, .ref tn_12, .ref tn_13, .ref tn_14, .ref tn_15, .int tnv16, .ref tn_17, .ref tn_18, .ref tnt])), (tn_3, .inl (k 0, 10, .inl tng3)), (tn_4, .inl (k 0, 10, .inl tng4)), (tn_5, .inl (k 0, 10, .inl tng5)), (tn_9, .inl (k 0, 4, .inl tng9)), (tn_10, .inl (k 0, 4, .inl tng10))]) [0, 1, 2, 3, 4, 5, 6, 7] (by decide +kernel) rfl
    exact W.iret (v := (-1)) hx hb hr (fun tZ ht hW => ⟨⟨(-1), (), rfl, (show (-1) ≤ (-1) ∧ (-1) ≤ 9 from by omega), by rw [ht]; exact hP9, va_K.moved hW.alike hK, hD9⟩, hS.F ht⟩) hS.2.2 dX1_laneInto_12
set_option maxHeartbeats 4000000 in
set_option maxRecDepth 100000 in
theorem c_X1_wayTo (l : Launch) (D : va_G) (k : Nat → ClassId) (ob : Nat) (tn : Nat) (p1 : Int32) (ob_0 : Nat) (obv1 : Int32) (obv2 : Int32) (obg0 : Nat → Int32) (tnv0 : Int32) (tnv1 : Int32) (tnv2 : Int32) (tn_3 : Nat) (tn_4 : Nat) (tn_5 : Nat) (tn_6 : Nat) (tnv7 : Int32) (tnv8 : Int32) (tn_9 : Nat) (tn_10 : Nat) (tnv11 : Int32) (tn_12 : Nat) (tn_13 : Nat) (tn_14 : Nat) (tn_15 : Nat) (tnv16 : Int32) (tn_17 : Nat) (tn_18 : Nat) (tnt : Nat) (tng3 : Nat → Int32) (tng4 : Nat → Int32) (tng5 : Nat → Int32) (tng9 : Nat → Int32) (tng10 : Nat → Int32) (sz : Nat) (h_p1 : 0 ≤ p1.toInt ∧ p1.toInt ≤ 7) (hp_obg0_0 : PR 8 1 0 0 1000000 obg0) (h_tnv0 : 0 ≤ tnv0.toInt ∧ tnv0.toInt ≤ 8) (h_tnv2 : 0 ≤ tnv2.toInt ∧ tnv2.toInt ≤ 10) (h_tnv8 : 0 ≤ tnv8.toInt ∧ tnv8.toInt ≤ 4) (h_tnv11 : 0 ≤ tnv11.toInt ∧ tnv11.toInt ≤ 6) (h_tnv16 : 0 ≤ tnv16.toInt ∧ tnv16.toInt ≤ 2) (hp_tng3_0 : PR 10 1 0 0 7 tng3) (hp_tng4_0 : PR 10 1 0 0 7 tng4) (hp_tng5_0 : PR 10 1 0 0 60 tng5) (hp_tng9_0 : PR 4 1 0 0 7 tng9) (hp_tng10_0 : PR 4 1 0 0 99 tng10) : Met l yX1_wayTo (ww yX1_wayTo cX1_wayTo 7 (some .int)) ({ frames := 2, cells := 0, slots := 0, locals := 47 }) (Pre0 D k [(ob, .inr (1, [.ref ob_0, .int obv1, .int obv2])), (ob_0, .inl (k 0, 8, .inl obg0)), (tn, .inr (10, [.int tnv0, .int tnv1, .int tnv2, .ref tn_3, .ref tn_4, .ref tn_5, .ref tn_6, .int tnv7, .int tnv8, .ref tn_9, .ref tn_10, .int tnv11, .ref tn_12, .ref tn_13, .ref tn_14, .ref tn_15, .int tnv16, .ref tn_17, .ref tn_18, .ref tnt])), (tn_3, .inl (k 0, 10, .inl tng3)), (tn_4, .inl (k 0, 10, .inl tng4)), (tn_5, .inl (k 0, 10, .inl tng5)), (tn_9, .inl (k 0, 4, .inl tng9)), (tn_10, .inl (k 0, 4, .inl tng10))] sz [.ref ob, .ref tn, .int p1]) (va_Qi (fun (r : Int32) (_ : Unit) => (0 ≤ r.toInt ∧ r.toInt ≤ 1023)) (fun (_ : Unit) tZ => Bw D k (va_A [(ob, .inr (1, [.ref ob_0, .int obv1, .int obv2])), (ob_0, .inl (k 0, 8, .inl obg0)), (tn, .inr (10, [.int tnv0, .int tnv1, .int tnv2, .ref tn_3, .ref tn_4, .ref tn_5, .ref tn_6, .int tnv7, .int tnv8, .ref tn_9, .ref tn_10, .int tnv11, .ref tn_12, .ref tn_13, .ref tn_14, .ref tn_15, .int tnv16, .ref tn_17, .ref tn_18, .ref tnt])), (tn_3, .inl (k 0, 10, .inl tng3)), (tn_4, .inl (k 0, 10, .inl tng4)), (tn_5, .inl (k 0, 10, .inl tng5)), (tn_9, .inl (k 0, 4, .inl tng9)), (tn_10, .inl (k 0, 4, .inl tng10))] sz) [(ob, .inr (1, [.ref ob_0, .int obv1, .int obv2])), (ob_0, .inl (k 0, 8, .inl obg0)), (tn, .inr (10, [.int tnv0, .int tnv1, .int tnv2, .ref tn_3, .ref tn_4, .ref tn_5, .ref tn_6, .int tnv7, .int tnv8, .ref tn_9, .ref tn_10, .int tnv11, .ref tn_12, .ref tn_13, .ref tn_14, .ref tn_15, .int tnv16, .ref tn_17, .ref tn_18, .ref tnt])), (tn_3, .inl (k 0, 10, .inl tng3)), (tn_4, .inl (k 0, 10, .inl tng4)), (tn_5, .inl (k 0, 10, .inl tng5)), (tn_9, .inl (k 0, 4, .inl tng9)), (tn_10, .inl (k 0, 4, .inl tng10))] tZ) (va_A [(ob, .inr (1, [.ref ob_0, .int obv1, .int obv2])), (ob_0, .inl (k 0, 8, .inl obg0)), (tn, .inr (10, [.int tnv0, .int tnv1, .int tnv2, .ref tn_3, .ref tn_4, .ref tn_5, .ref tn_6, .int tnv7, .int tnv8, .ref tn_9, .ref tn_10, .int tnv11, .ref tn_12, .ref tn_13, .ref tn_14, .ref tn_15, .int tnv16, .ref tn_17, .ref tn_18, .ref tnt])), (tn_3, .inl (k 0, 10, .inl tng3)), (tn_4, .inl (k 0, 10, .inl tng4)), (tn_5, .inl (k 0, 10, .inl tng5)), (tn_9, .inl (k 0, 4, .inl tng9)), (tn_10, .inl (k 0, 4, .inl tng10))] sz)) 0 0 (va_A [(ob, .inr (1, [.ref ob_0, .int obv1, .int obv2])), (ob_0, .inl (k 0, 8, .inl obg0)), (tn, .inr (10, [.int tnv0, .int tnv1, .int tnv2, .ref tn_3, .ref tn_4, .ref tn_5, .ref tn_6, .int tnv7, .int tnv8, .ref tn_9, .ref tn_10, .int tnv11, .ref tn_12, .ref tn_13, .ref tn_14, .ref tn_15, .int tnv16, .ref tn_17, .ref tn_18, .ref tnt])), (tn_3, .inl (k 0, 10, .inl tng3)), (tn_4, .inl (k 0, 10, .inl tng4)), (tn_5, .inl (k 0, 10, .inl tng5)), (tn_9, .inl (k 0, 4, .inl tng9)), (tn_10, .inl (k 0, 4, .inl tng10))] sz) := by
  refine Met.ofW (cc := cX1_wayTo) (maxL := 7) (ret := (some .int)) (by decide +kernel) rfl ?_
  intro p e s m args below meth c s₁ B hml hv
  obtain ⟨rfl, hsz, hP, hK, hD0, hN⟩ := hv
  have hx := B.exec
  have hb := B.bytes
  have hr := B.returns
  have hts : ∀ w ∈ TT, w.before _ s = true := fun w h => atoms_spec (ws := ww yX1_wayTo cX1_wayTo 7 (some .int)) B.pre w (List.mem_cons_of_mem _ h)
  have hown : s.vm.findClass RX1 = some m.cls := findClass_of_methodNamed B.named
  have hlocks := B.notSynchronized
  subst hsz
  have hD := hD0.self (sz := s.heap.size)
  generalize hAe : va_A [(ob, .inr (1, [.ref ob_0, .int obv1, .int obv2])), (ob_0, .inl (k 0, 8, .inl obg0)), (tn, .inr (10, [.int tnv0, .int tnv1, .int tnv2, .ref tn_3, .ref tn_4, .ref tn_5, .ref tn_6, .int tnv7, .int tnv8, .ref tn_9, .ref tn_10, .int tnv11, .ref tn_12, .ref tn_13, .ref tn_14, .ref tn_15, .int tnv16, .ref tn_17, .ref tn_18, .ref tnt])), (tn_3, .inl (k 0, 10, .inl tng3)), (tn_4, .inl (k 0, 10, .inl tng4)), (tn_5, .inl (k 0, 10, .inl tng5)), (tn_9, .inl (k 0, 4, .inl tng9)), (tn_10, .inl (k 0, 4, .inl tng10))] s.heap.size = A at hD ⊢
  have hA : ∀ q : Nat, s.heap.size ≤ q → A q := fun q h => by rw [← hAe]; exact Or.inr h
  have hS : va_S A s.heap s.heap [] := va_S.rf
  have hl := lv_entry ([.ref ob, .ref tn, .int p1]) (n := 7) (Nat.le_of_ble_eq_true rfl)
  rw [lg_entry_eq]
  generalize (lg_sl ([.ref ob, .ref tn, .int p1]) ++ List.replicate (7 - (lg_sl ([.ref ob, .ref tn, .int p1])).length) Slot.unset).toArray = ls at hl ⊢
  have hl : lv_has ls 7 [(0, .ref ob), (1, .ref tn), (2, .int p1)] := hl
  refine lv_iconst (v := 0) hx hb dX1_wayTo_0 (by decide) ?_
  refine lv_istore_n (lv' := [(3, .int 0), (0, .ref ob), (1, .ref tn), (2, .int p1)]) hx hb dX1_wayTo_1 rfl hl (by decide) rfl (fun ls hl => ?_)
  refine lv_iload_n hx hb dX1_wayTo_2 rfl (lv_at hl 3 rfl) ?_
  refine lv_istore (lv' := [(4, .int p1), (3, .int 0), (0, .ref ob), (1, .ref tn), (2, .int p1)]) hx hb dX1_wayTo_3 hl (by decide) rfl (fun ls hl => ?_)
  refine lv_iconst (v := 0) hx hb dX1_wayTo_5 (by decide) ?_
  refine lv_istore (lv' := [(5, .int 0), (4, .int p1), (3, .int 0), (0, .ref ob), (1, .ref tn), (2, .int p1)]) hx hb dX1_wayTo_6 hl (by decide) rfl (fun ls hl => ?_)
  refine loop_r (Wg := fun H locs ls => W p l e _ s m _ below meth c H locs _ _ _ (F0 m 8 ls [])) (fun n9 H locs ls => ∃ (L8l3 : Int32) (L8l4 : Int32) (L8l5 : Int32), n9 = (8 - L8l5.toInt).toNat ∧ (0 ≤ L8l3.toInt ∧ L8l3.toInt ≤ 1023) ∧ (0 ≤ L8l4.toInt ∧ L8l4.toInt ≤ 7) ∧ (0 ≤ L8l5.toInt ∧ L8l5.toInt ≤ 8) ∧ va_P D vwCl [(ob, .inr (1, [.ref ob_0, .int obv1, .int obv2])), (ob_0, .inl (k 0, 8, .inl obg0)), (tn, .inr (10, [.int tnv0, .int tnv1, .int tnv2, .ref tn_3, .ref tn_4, .ref tn_5, .ref tn_6, .int tnv7, .int tnv8, .ref tn_9, .ref tn_10, .int tnv11, .ref tn_12, .ref tn_13, .ref tn_14, .ref tn_15, .int tnv16, .ref tn_17, .ref tn_18, .ref tnt])), (tn_3, .inl (k 0, 10, .inl tng3)), (tn_4, .inl (k 0, 10, .inl tng4)), (tn_5, .inl (k 0, 10, .inl tng5)), (tn_9, .inl (k 0, 4, .inl tng9)), (tn_10, .inl (k 0, 4, .inl tng10))] H ∧ va_D A [(ob, .inr (1, [.ref ob_0, .int obv1, .int obv2])), (ob_0, .inl (k 0, 8, .inl obg0)), (tn, .inr (10, [.int tnv0, .int tnv1, .int tnv2, .ref tn_3, .ref tn_4, .ref tn_5, .ref tn_6, .int tnv7, .int tnv8, .ref tn_9, .ref tn_10, .int tnv11, .ref tn_12, .ref tn_13, .ref tn_14, .ref tn_15, .int tnv16, .ref tn_17, .ref tn_18, .ref tnt])), (tn_3, .inl (k 0, 10, .inl tng3)), (tn_4, .inl (k 0, 10, .inl tng4)), (tn_5, .inl (k 0, 10, .inl tng5)), (tn_9, .inl (k 0, 4, .inl tng9)), (tn_10, .inl (k 0, 4, .inl tng10))] ∧ va_S A s.heap H locs ∧ lv_has ls 7 [(0, .ref ob), (1, .ref tn), (2, .int p1), (3, .int L8l3), (4, .int L8l4), (5, .int L8l5)]) (fun n9 H locs ls hI ih_1 => ?_) _ _ _ _ ⟨0, p1, 0, rfl, (show 0 ≤ 0 ∧ 0 ≤ 1023 from by omega), (show 0 ≤ p1.toInt ∧ p1.toInt ≤ 7 from by omega), (show 0 ≤ 0 ∧ 0 ≤ 8 from by omega), hP.sub (ws' := [(ob, .inr (1, [.ref ob_0, .int obv1, .int obv2])), (ob_0, .inl (k 0, 8, .inl obg0)), (tn, .inr (10, [.int tnv0, .int tnv1, .int tnv2, .ref tn_3, .ref tn_4, .ref tn_5, .ref tn_6, .int tnv7, .int tnv8, .ref tn_9, .ref tn_10, .int tnv11, .ref tn_12, .ref tn_13, .ref tn_14, .ref tn_15, .int tnv16, .ref tn_17, .ref tn_18, .ref tnt])), (tn_3, .inl (k 0, 10, .inl tng3)), (tn_4, .inl (k 0, 10, .inl tng4)), (tn_5, .inl (k 0, 10, .inl tng5)), (tn_9, .inl (k 0, 4, .inl tng9)), (tn_10, .inl (k 0, 4, .inl tng10))]) [0, 1, 2, 3, 4, 5, 6, 7] rfl, hD.sub (ws' := [(ob, .inr (1, [.ref ob_0, .int obv1, .int obv2])), (ob_0, .inl (k 0, 8, .inl obg0)), (tn, .inr (10, [.int tnv0, .int tnv1, .int tnv2, .ref tn_3, .ref tn_4, .ref tn_5, .ref tn_6, .int tnv7, .int tnv8, .ref tn_9, .ref tn_10, .int tnv11, .ref tn_12, .ref tn_13, .ref tn_14, .ref tn_15, .int tnv16, .ref tn_17, .ref tn_18, .ref tnt])), (tn_3, .inl (k 0, 10, .inl tng3)), (tn_4, .inl (k 0, 10, .inl tng4)), (tn_5, .inl (k 0, 10, .inl tng5)), (tn_9, .inl (k 0, 4, .inl tng9)), (tn_10, .inl (k 0, 4, .inl tng10))]) [0, 1, 2, 3, 4, 5, 6, 7] (by decide +kernel) rfl, hS, lv_sub hl [3, 4, 5, 2, 1, 0] rfl⟩
  clear hP hD hS hl
  obtain ⟨L8l3, L8l4, L8l5, en_2, zL8l3, zL8l4, zL8l5, hP, hD, hS, hl⟩ := hI
  refine lv_iload hx hb dX1_wayTo_8 (lv_at hl 5 rfl) ?_
  refine lv_bipush (v := 8) hx hb dX1_wayTo_10 (by decide) ?_
  refine lv_icmp_ge (tgt := 77) hx hb dX1_wayTo_12 (by decide) (fun h_3 => ?_) (fun h_3 => ?_)
  · skip
    have zh_3 : 8 ≤ L8l5.toInt := z_le h_3
    refine lv_iload_n hx hb dX1_wayTo_77 rfl (lv_at hl 3 rfl) ?_
    obtain ⟨hP9, hD9⟩ := sub2 hP hD (ws' := [(ob, .inr (1, [.ref ob_0, .int obv1, .int obv2])), (ob_0, .inl (k 0, 8, .inl obg0)), (tn, .inr (10, [.int tnv0, .int tnv1, .int tnv2, .ref tn_3, .ref tn_4, .ref tn_5, .ref tn_6, .int tnv7, .int tnv8, .ref tn_9, .ref tn_10, .int tnv11, .ref tn_12, .ref tn_13, .ref tn_14, .ref tn_15, .int tnv16, .ref tn_17, .ref tn_18, .ref tnt])), (tn_3, .inl (k 0, 10, .inl tng3)), (tn_4, .inl (k 0, 10, .inl tng4)), (tn_5, .inl (k 0, 10, .inl tng5)), (tn_9, .inl (k 0, 4, .inl tng9)), (tn_10, .inl (k 0, 4, .inl tng10))]) [0, 1, 2, 3, 4, 5, 6, 7] (by decide +kernel) rfl
    exact W.iret (v := L8l3) hx hb hr (fun tZ ht hW => ⟨⟨L8l3, (), rfl, (show 0 ≤ L8l3.toInt ∧ L8l3.toInt ≤ 1023 from by omega), by rw [ht]; exact hP9, va_K.moved hW.alike hK, hD9⟩, hS.F ht⟩) hS.2.2 dX1_wayTo_78
  · skip
    have zh_3 : L8l5.toInt < 8 := z_nle h_3
    refine lv_aload_n hx hb dX1_wayTo_15 rfl (lv_at hl 0 rfl) ?_
    refine lv_aload_n hx hb dX1_wayTo_16 rfl (lv_at hl 1 rfl) ?_
    refine lv_iload hx hb dX1_wayTo_17 (lv_at hl 4 rfl) ?_
    obtain ⟨hPc, hDc, hFc⟩ := sub3 hP hD hS hA (ws' := [(ob, .inr (1, [.ref ob_0, .int obv1, .int obv2])), (ob_0, .inl (k 0, 8, .inl obg0)), (tn, .inr (10, [.int tnv0, .int tnv1, .int tnv2, .ref tn_3, .ref tn_4, .ref tn_5, .ref tn_6, .int tnv7, .int tnv8, .ref tn_9, .ref tn_10, .int tnv11, .ref tn_12, .ref tn_13, .ref tn_14, .ref tn_15, .int tnv16, .ref tn_17, .ref tn_18, .ref tnt])), (tn_3, .inl (k 0, 10, .inl tng3)), (tn_4, .inl (k 0, 10, .inl tng4)), (tn_5, .inl (k 0, 10, .inl tng5)), (tn_9, .inl (k 0, 4, .inl tng9)), (tn_10, .inl (k 0, 4, .inl tng10))]) [0, 1, 2, 3, 4, 5, 6, 7] (by decide +kernel) rfl
    refine va_calli (va_runV (C := RX1) (As := [.ref tn, .int L8l4]) (rest := []) ⟨hx, hb, hml, hown, hts⟩ (c_X1_laneInto l D k ob tn L8l4 ob_0 obv1 obv2 obg0 tnv0 tnv1 tnv2 tn_3 tn_4 tn_5 tn_6 tnv7 tnv8 tn_9 tn_10 tnv11 tn_12 tn_13 tn_14 tn_15 tnv16 tn_17 tn_18 tnt tng3 tng4 tng5 tng9 tng10 H.size (show 0 ≤ L8l4.toInt ∧ L8l4.toInt ≤ 7 from by omega) hp_obg0_0 (show 0 ≤ tnv0.toInt ∧ tnv0.toInt ≤ 8 from by omega) (show 0 ≤ tnv2.toInt ∧ tnv2.toInt ≤ 10 from by omega) (show 0 ≤ tnv8.toInt ∧ tnv8.toInt ≤ 4 from by omega) (show 0 ≤ tnv11.toInt ∧ tnv11.toInt ≤ 6 from by omega) (show 0 ≤ tnv16.toInt ∧ tnv16.toInt ≤ 2 from by omega) hp_tng3_0 hp_tng4_0 hp_tng5_0 hp_tng9_0 hp_tng10_0) (cwV 2 hts (gV tw_4_99 tw_3_224 tw_3_225 tw_1_6 tw_3_226) rfl rfl rfl hdV_X1_laneInto ⟨Nat.le_of_ble_eq_true rfl, Nat.le_of_ble_eq_true rfl⟩) (cz_V hK hPc hDc hN (ci := 1) (q0 := 0) rfl rfl [.ref tn, .int L8l4]) rfl rfl hl.1 rfl (lv_room (Nat.le_of_ble_eq_true rfl)) dX1_wayTo_19 ⟨Nat.le_of_ble_eq_true rfl, Nat.le_of_ble_eq_true rfl⟩) hS (fun q _ h => hFc q h) hFc (fun r_4 uZ tZ H1 locs ht hvm hw hB hz1 hk1 hS => ?_)
    obtain ⟨hP1, hK1, hD1⟩ := hB
    rw [ht] at hP1
    obtain ⟨hP, hD⟩ := va_join (wr := []) (w1 := [(ob, .inr (1, [.ref ob_0, .int obv1, .int obv2])), (ob_0, .inl (k 0, 8, .inl obg0)), (tn, .inr (10, [.int tnv0, .int tnv1, .int tnv2, .ref tn_3, .ref tn_4, .ref tn_5, .ref tn_6, .int tnv7, .int tnv8, .ref tn_9, .ref tn_10, .int tnv11, .ref tn_12, .ref tn_13, .ref tn_14, .ref tn_15, .int tnv16, .ref tn_17, .ref tn_18, .ref tnt])), (tn_3, .inl (k 0, 10, .inl tng3)), (tn_4, .inl (k 0, 10, .inl tng4)), (tn_5, .inl (k 0, 10, .inl tng5)), (tn_9, .inl (k 0, 4, .inl tng9)), (tn_10, .inl (k 0, 4, .inl tng10))]) hP hD [0, 1, 2, 3, 4, 5, 6, 7] [] rfl rfl (by decide +kernel) (by decide +kernel) hk1 hFc hP1 hD1
    clear hK1 hP1 hD1 hPc hDc hFc
    clear hk1 hz1 ht hvm
    have hP : va_P D vwCl [(ob, .inr (1, [.ref ob_0, .int obv1, .int obv2])), (ob_0, .inl (k 0, 8, .inl obg0)), (tn, .inr (10, [.int tnv0, .int tnv1, .int tnv2, .ref tn_3, .ref tn_4, .ref tn_5, .ref tn_6, .int tnv7, .int tnv8, .ref tn_9, .ref tn_10, .int tnv11, .ref tn_12, .ref tn_13, .ref tn_14, .ref tn_15, .int tnv16, .ref tn_17, .ref tn_18, .ref tnt])), (tn_3, .inl (k 0, 10, .inl tng3)), (tn_4, .inl (k 0, 10, .inl tng4)), (tn_5, .inl (k 0, 10, .inl tng5)), (tn_9, .inl (k 0, 4, .inl tng9)), (tn_10, .inl (k 0, 4, .inl tng10))] H1 := hP
    have hD : va_D A [(ob, .inr (1, [.ref ob_0, .int obv1, .int obv2])), (ob_0, .inl (k 0, 8, .inl obg0)), (tn, .inr (10, [.int tnv0, .int tnv1, .int tnv2, .ref tn_3, .ref tn_4, .ref tn_5, .ref tn_6, .int tnv7, .int tnv8, .ref tn_9, .ref tn_10, .int tnv11, .ref tn_12, .ref tn_13, .ref tn_14, .ref tn_15, .int tnv16, .ref tn_17, .ref tn_18, .ref tnt])), (tn_3, .inl (k 0, 10, .inl tng3)), (tn_4, .inl (k 0, 10, .inl tng4)), (tn_5, .inl (k 0, 10, .inl tng5)), (tn_9, .inl (k 0, 4, .inl tng9)), (tn_10, .inl (k 0, 4, .inl tng10))] := hD
    generalize H1 = H at hP hS ⊢
    have hw_5 : ((-1) ≤ r_4.toInt ∧ r_4.toInt ≤ 9) := hw
    have hw_6 := hw_5
    clear hw
    refine lv_istore (lv' := [(6, .int r_4), (0, .ref ob), (1, .ref tn), (2, .int p1), (3, .int L8l3), (4, .int L8l4), (5, .int L8l5)]) hx hb dX1_wayTo_22 hl (by decide) rfl (fun ls hl => ?_)
    refine lv_iload hx hb dX1_wayTo_24 (lv_at hl 0 rfl) ?_
    refine lv_iconst (v := (-1)) hx hb dX1_wayTo_26 (by decide) ?_
    refine lv_icmp_ne (tgt := 33) hx hb dX1_wayTo_27 (by decide) (fun h_7 => ?_) (fun h_7 => ?_)
    · skip
      have zh_7 : ¬ r_4.toInt = (-1) := z_ne h_7
      refine lv_iload_n hx hb dX1_wayTo_33 rfl (lv_at hl 4 rfl) ?_
      refine lv_iconst (v := 1) hx hb dX1_wayTo_34 (by decide) ?_
      refine lv_iload hx hb dX1_wayTo_35 (lv_at hl 0 rfl) ?_
      refine lv_ishl hx hb dX1_wayTo_37 ?_
      refine lv_topi (fun x_8 ex_8 => ?_)
      have zx_8 : 1 ≤ x_8.toInt ∧ x_8.toInt ≤ 512 := by rw [ex_8]; exact z_shl1 9 512 rfl (by decide) (by omega) (by omega)
      refine lv_ior hx hb dX1_wayTo_38 ?_
      refine lv_topi (fun x_9 ex_9 => ?_)
      have zx_9 : 0 ≤ x_9.toInt ∧ x_9.toInt < 1024 := by rw [ex_9]; exact z_or 10 1024 rfl (by decide) ⟨by omega, by omega⟩ ⟨by omega, by omega⟩
      refine lv_istore_n (lv' := [(3, .int x_9), (6, .int r_4), (0, .ref ob), (1, .ref tn), (2, .int p1), (4, .int L8l4), (5, .int L8l5)]) hx hb dX1_wayTo_39 rfl hl (by decide) rfl (fun ls hl => ?_)
      refine lv_aload_n hx hb dX1_wayTo_40 rfl (lv_at hl 3 rfl) ?_
      refine va_get (D := D) (ci := 10) (v := .ref tn_3) (C := RX10) (T := TX10) (N := 20) hx hb hts iT_X10 hown hK hP 2 rfl rfl 3 (by decide) (hts _ tw_1_87) (fun _ h9 => h9) rfl dX1_wayTo_41 ?_
      refine lv_iload hx hb dX1_wayTo_44 (lv_at hl 1 rfl) ?_
      refine va_iald hx hb hK hP 3 0 rfl rfl (z_in (by omega) (by omega)) dX1_wayTo_46 ?_
      refine lv_topi (fun x_10 ex_10 => ?_)
      have zx_10r0 : 0 ≤ x_10.toInt ∧ x_10.toInt ≤ 7 := by rw [ex_10]; exact PR.ld hp_tng3_0 (by omega) (by omega) (by omega)
      refine lv_iload hx hb dX1_wayTo_47 (lv_at hl 5 rfl) ?_
      refine lv_icmp_ne (tgt := 62) hx hb dX1_wayTo_49 (by decide) (fun h_11 => ?_) (fun h_11 => ?_)
      · skip
        have zh_11 : ¬ x_10.toInt = L8l4.toInt := z_ne h_11
        refine lv_aload_n hx hb dX1_wayTo_62 rfl (lv_at hl 3 rfl) ?_
        refine va_get (D := D) (ci := 10) (v := .ref tn_3) (C := RX10) (T := TX10) (N := 20) hx hb hts iT_X10 hown hK hP 2 rfl rfl 3 (by decide) (hts _ tw_1_87) (fun _ h9 => h9) rfl dX1_wayTo_63 ?_
        refine lv_iload hx hb dX1_wayTo_66 (lv_at hl 1 rfl) ?_
        refine va_iald hx hb hK hP 3 0 rfl rfl (z_in (by omega) (by omega)) dX1_wayTo_68 ?_
        refine lv_topi (fun x_12 ex_12 => ?_)
        obtain rfl : x_10 = x_12 := ex_10.trans ex_12.symm
        refine lv_istore (lv' := [(4, .int x_10), (3, .int x_9), (6, .int r_4), (0, .ref ob), (1, .ref tn), (2, .int p1), (5, .int L8l5)]) hx hb dX1_wayTo_69 hl (by decide) rfl (fun ls hl => ?_)
        obtain ⟨x_13, ex_13⟩ : ∃ y : Int32, y = L8l5 + 1 := ⟨_, rfl⟩
        have zx_13 : x_13.toInt = L8l5.toInt + 1 := by rw [ex_13]; exact z_add rfl rfl (by omega) (by omega)
        refine lv_iinc (v := x_13) (lv' := [(5, .int x_13), (4, .int x_10), (3, .int x_9), (6, .int r_4), (0, .ref ob), (1, .ref tn), (2, .int p1)]) hx hb dX1_wayTo_71 hl (k := 6) rfl (by rw [ex_13]; rfl) (by decide) rfl (fun ls hl => ?_)
        refine lv_goto (tgt := 8) hx hb dX1_wayTo_74 (by decide) ?_
        exact ih_1 _ _ _ _ (by omega) ⟨x_9, x_10, x_13, rfl, (show 0 ≤ x_9.toInt ∧ x_9.toInt ≤ 1023 from by omega), (show 0 ≤ x_10.toInt ∧ x_10.toInt ≤ 7 from by omega), (show 0 ≤ x_13.toInt ∧ x_13.toInt ≤ 8 from by omega), hP.sub (ws' := [(ob, .inr (1, [.ref ob_0, .int obv1, .int obv2])), (ob_0, .inl (k 0, 8, .inl obg0)), (tn, .inr (10, [.int tnv0, .int tnv1, .int tnv2, .ref tn_3, .ref tn_4, .ref tn_5, .ref tn_6, .int tnv7, .int tnv8, .ref tn_9, .ref tn_10, .int tnv11, .ref tn_12, .ref tn_13, .ref tn_14, .ref tn_15, .int tnv16, .ref tn_17, .ref tn_18, .ref tnt])), (tn_3, .inl (k 0, 10, .inl tng3)), (tn_4, .inl (k 0, 10, .inl tng4)), (tn_5, .inl (k 0, 10, .inl tng5)), (tn_9, .inl (k 0, 4, .inl tng9)), (tn_10, .inl (k 0, 4, .inl tng10))]) [0, 1, 2, 3, 4, 5, 6, 7] rfl, hD.sub (ws' := [(ob, .inr (1, [.ref ob_0, .int obv1, .int obv2])), (ob_0, .inl (k 0, 8, .inl obg0)), (tn, .inr (10, [.int tnv0, .int tnv1, .int tnv2, .ref tn_3, .ref tn_4, .ref tn_5, .ref tn_6, .int tnv7, .int tnv8, .ref tn_9, .ref tn_10, .int tnv11, .ref tn_12, .ref tn_13, .ref tn_14, .ref tn_15, .int tnv16, .ref tn_17, .ref tn_18, .ref tnt])), (tn_3, .inl (k 0, 10, .inl tng3)), (tn_4, .inl (k 0, 10, .inl tng4)), (tn_5, .inl (k 0, 10, .inl tng5)), (tn_9, .inl (k 0, 4, .inl tng9)), (tn_10, .inl (k 0, 4, .inl tng10))]) [0, 1, 2, 3, 4, 5, 6, 7] (by decide +kernel) rfl, hS, lv_sub hl [4, 5, 6, 2, 1, 0] rfl⟩
      · skip
        have zh_11 : x_10.toInt = L8l4.toInt := z_eq h_11
        refine lv_aload_n hx hb dX1_wayTo_52 rfl (lv_at hl 3 rfl) ?_
        refine va_get (D := D) (ci := 10) (v := .ref tn_4) (C := RX10) (T := TX10) (N := 20) hx hb hts iT_X10 hown hK hP 2 rfl rfl 4 (by decide) (hts _ tw_1_91) (fun _ h9 => h9) rfl dX1_wayTo_53 ?_
        refine lv_iload hx hb dX1_wayTo_56 (lv_at hl 1 rfl) ?_
        refine va_iald hx hb hK hP 4 0 rfl rfl (z_in (by omega) (by omega)) dX1_wayTo_58 ?_
        refine lv_topi (fun x_14 ex_14 => ?_)
        have zx_14r0 : 0 ≤ x_14.toInt ∧ x_14.toInt ≤ 7 := by rw [ex_14]; exact PR.ld hp_tng4_0 (by omega) (by omega) (by omega)
        refine lv_goto (tgt := 69) hx hb dX1_wayTo_59 (by decide) ?_
        refine lv_istore (lv' := [(4, .int x_14), (3, .int x_9), (6, .int r_4), (0, .ref ob), (1, .ref tn), (2, .int p1), (5, .int L8l5)]) hx hb dX1_wayTo_69 hl (by decide) rfl (fun ls hl => ?_)
        obtain ⟨x_15, ex_15⟩ : ∃ y : Int32, y = L8l5 + 1 := ⟨_, rfl⟩
        have zx_15 : x_15.toInt = L8l5.toInt + 1 := by rw [ex_15]; exact z_add rfl rfl (by omega) (by omega)
        refine lv_iinc (v := x_15) (lv' := [(5, .int x_15), (4, .int x_14), (3, .int x_9), (6, .int r_4), (0, .ref ob), (1, .ref tn), (2, .int p1)]) hx hb dX1_wayTo_71 hl (k := 6) rfl (by rw [ex_15]; rfl) (by decide) rfl (fun ls hl => ?_)
        refine lv_goto (tgt := 8) hx hb dX1_wayTo_74 (by decide) ?_
        exact ih_1 _ _ _ _ (by omega) ⟨x_9, x_14, x_15, rfl, (show 0 ≤ x_9.toInt ∧ x_9.toInt ≤ 1023 from by omega), (show 0 ≤ x_14.toInt ∧ x_14.toInt ≤ 7 from by omega), (show 0 ≤ x_15.toInt ∧ x_15.toInt ≤ 8 from by omega), hP.sub (ws' := [(ob, .inr (1, [.ref ob_0, .int obv1, .int obv2])), (ob_0, .inl (k 0, 8, .inl obg0)), (tn, .inr (10, [.int tnv0, .int tnv1, .int tnv2, .ref tn_3, .ref tn_4, .ref tn_5, .ref tn_6, .int tnv7, .int tnv8, .ref tn_9, .ref tn_10, .int tnv11, .ref tn_12, .ref tn_13, .ref tn_14, .ref tn_15, .int tnv16, .ref tn_17, .ref tn_18, .ref tnt])), (tn_3, .inl (k 0, 10, .inl tng3)), (tn_4, .inl (k 0, 10, .inl tng4)), (tn_5, .inl (k 0, 10, .inl tng5)), (tn_9, .inl (k 0, 4, .inl tng9)), (tn_10, .inl (k 0, 4, .inl tng10))]) [0, 1, 2, 3, 4, 5, 6, 7] rfl, hD.sub (ws' := [(ob, .inr (1, [.ref ob_0, .int obv1, .int obv2])), (ob_0, .inl (k 0, 8, .inl obg0)), (tn, .inr (10, [.int tnv0, .int tnv1, .int tnv2, .ref tn_3, .ref tn_4, .ref tn_5, .ref tn_6, .int tnv7, .int tnv8, .ref tn_9, .ref tn_10, .int tnv11, .ref tn_12, .ref tn_13, .ref tn_14, .ref tn_15, .int tnv16, .ref tn_17, .ref tn_18, .ref tnt])), (tn_3, .inl (k 0, 10, .inl tng3)), (tn_4, .inl (k 0, 10, .inl tng4)), (tn_5, .inl (k 0, 10, .inl tng5)), (tn_9, .inl (k 0, 4, .inl tng9)), (tn_10, .inl (k 0, 4, .inl tng10))]) [0, 1, 2, 3, 4, 5, 6, 7] (by decide +kernel) rfl, hS, lv_sub hl [4, 5, 6, 2, 1, 0] rfl⟩
    · skip
      have zh_7 : r_4.toInt = (-1) := z_eq h_7
      refine lv_goto (tgt := 77) hx hb dX1_wayTo_30 (by decide) ?_
      refine lv_iload_n hx hb dX1_wayTo_77 rfl (lv_at hl 4 rfl) ?_
      obtain ⟨hP9, hD9⟩ := sub2 hP hD (ws' := [(ob, .inr (1, [.ref ob_0, .int obv1, .int obv2])), (ob_0, .inl (k 0, 8, .inl obg0)), (tn, .inr (10, [.int tnv0, .int tnv1, .int tnv2, .ref tn_3, .ref tn_4, .ref tn_5, .ref tn_6, .int tnv7, .int tnv8, .ref tn_9, .ref tn_10, .int tnv11, .ref tn_12, .ref tn_13, .ref tn_14, .ref tn_15, .int tnv16, .ref tn_17, .ref tn_18, .ref tnt])), (tn_3, .inl (k 0, 10, .inl tng3)), (tn_4, .inl (k 0, 10, .inl tng4)), (tn_5, .inl (k 0, 10, .inl tng5)), (tn_9, .inl (k 0, 4, .inl tng9)), (tn_10, .inl (k 0, 4, .inl tng10))]) [0, 1, 2, 3, 4, 5, 6, 7] (by decide +kernel) rfl
      exact W.iret (v := L8l3) hx hb hr (fun tZ ht hW => ⟨⟨L8l3, (), rfl, (show 0 ≤ L8l3.toInt ∧ L8l3.toInt ≤ 1023 from by omega), by rw [ht]; exact hP9, va_K.moved hW.alike hK, hD9⟩, hS.F ht⟩) hS.2.2 dX1_wayTo_78
set_option maxHeartbeats 4000000 in
set_option maxRecDepth 100000 in
theorem c_J9_abs_0f7a4 (l : Launch) (D : va_G) (k : Nat → ClassId) (p0 : Int32) (sz : Nat) : Met l yJ9_abs_0f7a4 (ww yJ9_abs_0f7a4 cJ9_abs_0f7a4 1 (some .int)) ({ frames := 0, cells := 0, slots := 0, locals := 0 }) (Pre0 D k [] sz [.int p0]) (va_Qi (fun (r : Int32) (_ : Unit) => True) (fun (_ : Unit) tZ => Bw D k (va_A [] sz) [] tZ) (va_A [] sz)) 0 0 (va_A [] sz) := by
  refine va_MetF (cc := cJ9_abs_0f7a4) (maxL := 1) (ret := (some .int)) (by decide +kernel) rfl ?_
  intro p e s m args below meth c s₁ B hml hv
  obtain ⟨rfl, hsz, hP, hK, hD0, hN⟩ := hv
  have hx := B.exec
  have hb := B.bytes
  have hr := B.returns
  have hts : ∀ w ∈ TT, w.before _ s = true := fun w h => atoms_spec (ws := ww yJ9_abs_0f7a4 cJ9_abs_0f7a4 1 (some .int)) B.pre w (List.mem_cons_of_mem _ h)
  have hown : s.vm.findClass RJ9 = some m.cls := findClass_of_methodNamed B.named
  have hlocks := B.notSynchronized
  subst hsz
  have hD := hD0.self (sz := s.heap.size)
  generalize hAe : va_A [] s.heap.size = A at hD ⊢
  have hA : ∀ q : Nat, s.heap.size ≤ q → A q := fun q h => by rw [← hAe]; exact Or.inr h
  have hS : va_S A s.heap s.heap [] := va_S.rf
  have hl := lv_entry ([.int p0]) (n := 1) (Nat.le_of_ble_eq_true rfl)
  rw [lg_entry_eq]
  generalize (lg_sl ([.int p0]) ++ List.replicate (1 - (lg_sl ([.int p0])).length) Slot.unset).toArray = ls at hl ⊢
  have hl : lv_has ls 1 [(0, .int p0)] := hl
  refine lv_iload_n hx hb dJ9_abs_0f7a4_0 rfl (lv_at hl 0 rfl) ?_
  refine lv_if_ge (tgt := 9) hx hb dJ9_abs_0f7a4_1 (by decide) (fun h_1 => ?_) (fun h_1 => ?_)
  · skip
    have zh_1 : 0 ≤ p0.toInt := z_le h_1
    refine lv_iload_n hx hb dJ9_abs_0f7a4_9 rfl (lv_at hl 0 rfl) ?_
    obtain ⟨hP9, hD9⟩ := sub2 hP hD (ws' := []) [] (by decide +kernel) rfl
    exact W.iret (v := p0) hx hb hr (fun tZ ht hW => ⟨⟨p0, (), rfl, trivial, by rw [ht]; exact hP9, va_K.moved hW.alike hK, hD9⟩, hS.F ht⟩) hS.2.2 dJ9_abs_0f7a4_10
  · skip
    have zh_1 : p0.toInt < 0 := z_nle h_1
    refine lv_iload_n hx hb dJ9_abs_0f7a4_4 rfl (lv_at hl 0 rfl) ?_
    refine lv_ineg hx hb dJ9_abs_0f7a4_5 ?_
    refine lv_topi (fun x_2 ex_2 => ?_)
    have zrp0 := z_rng p0
    refine lv_goto (tgt := 10) hx hb dJ9_abs_0f7a4_6 (by decide) ?_
    obtain ⟨hP9, hD9⟩ := sub2 hP hD (ws' := []) [] (by decide +kernel) rfl
    exact W.iret (v := x_2) hx hb hr (fun tZ ht hW => ⟨⟨x_2, (), rfl, trivial, by rw [ht]; exact hP9, va_K.moved hW.alike hK, hD9⟩, hS.F ht⟩) hS.2.2 dJ9_abs_0f7a4_10
set_option maxHeartbeats 4000000 in
set_option maxRecDepth 100000 in
theorem c_X1_gladAt (l : Launch) (D : va_G) (k : Nat → ClassId) (tn : Nat) (p1 : Int32) (p2 : Int32) (tnv0 : Int32) (tnv1 : Int32) (tnv2 : Int32) (tn_3 : Nat) (tn_4 : Nat) (tn_5 : Nat) (tn_6 : Nat) (tnv7 : Int32) (tnv8 : Int32) (tn_9 : Nat) (tn_10 : Nat) (tnv11 : Int32) (tn_12 : Nat) (tn_13 : Nat) (tn_14 : Nat) (tn_15 : Nat) (tnv16 : Int32) (tn_17 : Nat) (tn_18 : Nat) (tnt : Nat) (tng13 : Nat → Int32) (tng14 : Nat → Int32) (sz : Nat) (h_p1 : 0 ≤ p1.toInt ∧ p1.toInt ≤ 5) (h_tnv0 : 0 ≤ tnv0.toInt ∧ tnv0.toInt ≤ 8) (h_tnv2 : 0 ≤ tnv2.toInt ∧ tnv2.toInt ≤ 10) (h_tnv8 : 0 ≤ tnv8.toInt ∧ tnv8.toInt ≤ 4) (h_tnv11 : 0 ≤ tnv11.toInt ∧ tnv11.toInt ≤ 6) (h_tnv16 : 0 ≤ tnv16.toInt ∧ tnv16.toInt ≤ 2) (hp_tng13_0 : PR 6 1 0 0 999 tng13) (hp_tng14_0 : PR 6 1 0 0 999 tng14) : Met l yX1_gladAt (ww yX1_gladAt cX1_gladAt 3 (some .int)) ({ frames := 1, cells := 0, slots := 0, locals := 21 }) (Pre0 D k [(tn, .inr (10, [.int tnv0, .int tnv1, .int tnv2, .ref tn_3, .ref tn_4, .ref tn_5, .ref tn_6, .int tnv7, .int tnv8, .ref tn_9, .ref tn_10, .int tnv11, .ref tn_12, .ref tn_13, .ref tn_14, .ref tn_15, .int tnv16, .ref tn_17, .ref tn_18, .ref tnt])), (tn_13, .inl (k 0, 6, .inl tng13)), (tn_14, .inl (k 0, 6, .inl tng14))] sz [.ref tn, .int p1, .int p2]) (va_Qi (fun (r : Int32) (_ : Unit) => (0 ≤ r.toInt ∧ r.toInt ≤ 2147483647)) (fun (_ : Unit) tZ => Bw D k (va_A [(tn, .inr (10, [.int tnv0, .int tnv1, .int tnv2, .ref tn_3, .ref tn_4, .ref tn_5, .ref tn_6, .int tnv7, .int tnv8, .ref tn_9, .ref tn_10, .int tnv11, .ref tn_12, .ref tn_13, .ref tn_14, .ref tn_15, .int tnv16, .ref tn_17, .ref tn_18, .ref tnt])), (tn_13, .inl (k 0, 6, .inl tng13)), (tn_14, .inl (k 0, 6, .inl tng14))] sz) [(tn, .inr (10, [.int tnv0, .int tnv1, .int tnv2, .ref tn_3, .ref tn_4, .ref tn_5, .ref tn_6, .int tnv7, .int tnv8, .ref tn_9, .ref tn_10, .int tnv11, .ref tn_12, .ref tn_13, .ref tn_14, .ref tn_15, .int tnv16, .ref tn_17, .ref tn_18, .ref tnt])), (tn_13, .inl (k 0, 6, .inl tng13)), (tn_14, .inl (k 0, 6, .inl tng14))] tZ) (va_A [(tn, .inr (10, [.int tnv0, .int tnv1, .int tnv2, .ref tn_3, .ref tn_4, .ref tn_5, .ref tn_6, .int tnv7, .int tnv8, .ref tn_9, .ref tn_10, .int tnv11, .ref tn_12, .ref tn_13, .ref tn_14, .ref tn_15, .int tnv16, .ref tn_17, .ref tn_18, .ref tnt])), (tn_13, .inl (k 0, 6, .inl tng13)), (tn_14, .inl (k 0, 6, .inl tng14))] sz)) 0 0 (va_A [(tn, .inr (10, [.int tnv0, .int tnv1, .int tnv2, .ref tn_3, .ref tn_4, .ref tn_5, .ref tn_6, .int tnv7, .int tnv8, .ref tn_9, .ref tn_10, .int tnv11, .ref tn_12, .ref tn_13, .ref tn_14, .ref tn_15, .int tnv16, .ref tn_17, .ref tn_18, .ref tnt])), (tn_13, .inl (k 0, 6, .inl tng13)), (tn_14, .inl (k 0, 6, .inl tng14))] sz) := by
  refine Met.ofW (cc := cX1_gladAt) (maxL := 3) (ret := (some .int)) (by decide +kernel) rfl ?_
  intro p e s m args below meth c s₁ B hml hv
  obtain ⟨rfl, hsz, hP, hK, hD0, hN⟩ := hv
  have hx := B.exec
  have hb := B.bytes
  have hr := B.returns
  have hts : ∀ w ∈ TT, w.before _ s = true := fun w h => atoms_spec (ws := ww yX1_gladAt cX1_gladAt 3 (some .int)) B.pre w (List.mem_cons_of_mem _ h)
  have hown : s.vm.findClass RX1 = some m.cls := findClass_of_methodNamed B.named
  have hlocks := B.notSynchronized
  subst hsz
  have hD := hD0.self (sz := s.heap.size)
  generalize hAe : va_A [(tn, .inr (10, [.int tnv0, .int tnv1, .int tnv2, .ref tn_3, .ref tn_4, .ref tn_5, .ref tn_6, .int tnv7, .int tnv8, .ref tn_9, .ref tn_10, .int tnv11, .ref tn_12, .ref tn_13, .ref tn_14, .ref tn_15, .int tnv16, .ref tn_17, .ref tn_18, .ref tnt])), (tn_13, .inl (k 0, 6, .inl tng13)), (tn_14, .inl (k 0, 6, .inl tng14))] s.heap.size = A at hD ⊢
  have hA : ∀ q : Nat, s.heap.size ≤ q → A q := fun q h => by rw [← hAe]; exact Or.inr h
  have hS : va_S A s.heap s.heap [] := va_S.rf
  have hl := lv_entry ([.ref tn, .int p1, .int p2]) (n := 3) (Nat.le_of_ble_eq_true rfl)
  rw [lg_entry_eq]
  generalize (lg_sl ([.ref tn, .int p1, .int p2]) ++ List.replicate (3 - (lg_sl ([.ref tn, .int p1, .int p2])).length) Slot.unset).toArray = ls at hl ⊢
  have hl : lv_has ls 3 [(0, .ref tn), (1, .int p1), (2, .int p2)] := hl
  refine lv_iload_n hx hb dX1_gladAt_0 rfl (lv_at hl 2 rfl) ?_
  refine lv_ldc (v := 1000000) hx hb hown (hts _ tw_3_191) dX1_gladAt_1 ?_
  refine lv_icmp_lt (tgt := 8) hx hb dX1_gladAt_3 (by decide) (fun h_1 => ?_) (fun h_1 => ?_)
  · skip
    have zh_1 : p2.toInt < 1000000 := z_lt h_1
    refine lv_iconst (v := 0) hx hb dX1_gladAt_8 (by decide) ?_
    refine lv_aload_n hx hb dX1_gladAt_9 rfl (lv_at hl 0 rfl) ?_
    refine va_get (D := D) (ci := 10) (v := .ref tn_14) (C := RX10) (T := TX10) (N := 20) hx hb hts iT_X10 hown hK hP 0 rfl rfl 14 (by decide) (hts _ tw_1_137) (fun _ h9 => h9) rfl dX1_gladAt_10 ?_
    refine lv_iload_n hx hb dX1_gladAt_13 rfl (lv_at hl 1 rfl) ?_
    refine va_iald hx hb hK hP 2 0 rfl rfl (z_in (by omega) (by omega)) dX1_gladAt_14 ?_
    refine lv_topi (fun x_2 ex_2 => ?_)
    have zx_2r0 : 0 ≤ x_2.toInt ∧ x_2.toInt ≤ 999 := by rw [ex_2]; exact PR.ld hp_tng14_0 (by omega) (by omega) (by omega)
    refine lv_aload_n hx hb dX1_gladAt_15 rfl (lv_at hl 0 rfl) ?_
    refine va_get (D := D) (ci := 10) (v := .ref tn_13) (C := RX10) (T := TX10) (N := 20) hx hb hts iT_X10 hown hK hP 0 rfl rfl 13 (by decide) (hts _ tw_1_133) (fun _ h9 => h9) rfl dX1_gladAt_16 ?_
    refine lv_iload_n hx hb dX1_gladAt_19 rfl (lv_at hl 1 rfl) ?_
    refine va_iald hx hb hK hP 1 0 rfl rfl (z_in (by omega) (by omega)) dX1_gladAt_20 ?_
    refine lv_topi (fun x_3 ex_3 => ?_)
    have zx_3r0 : 0 ≤ x_3.toInt ∧ x_3.toInt ≤ 999 := by rw [ex_3]; exact PR.ld hp_tng13_0 (by omega) (by omega) (by omega)
    refine lv_iload_n hx hb dX1_gladAt_21 rfl (lv_at hl 2 rfl) ?_
    refine lv_isub hx hb dX1_gladAt_22 ?_
    refine lv_topi (fun x_4 ex_4 => ?_)
    have zrp2 := z_rng p2
    obtain ⟨hPc, hDc, hFc⟩ := sub3 hP hD hS hA (ws' := []) [] (by decide +kernel) rfl
    refine va_calli (va_runS (As := [.int x_4]) (rest := [.int x_2, .int 0]) ⟨hx, hb, hml, hown, hts⟩ (c_J9_abs_0f7a4 l D k x_4 s.heap.size) (va_cwS 1 hts (gS tw_4_79 tw_4_80 tw_1_14 tw_4_81) rfl rfl rfl hdS_J9_abs_0f7a4 ⟨Nat.le_of_ble_eq_true rfl, Nat.le_of_ble_eq_true rfl⟩) (cz_S hK hPc hDc hN [.int x_4]) rfl rfl hl.1 rfl (lv_room (Nat.le_of_ble_eq_true rfl)) dX1_gladAt_23 ⟨Nat.le_of_ble_eq_true rfl, Nat.le_of_ble_eq_true rfl⟩) hS (fun q _ h => hFc q h) hFc (fun r_5 uZ tZ H1 locs ht hvm hw hB hz1 hk1 hS => ?_)
    obtain ⟨hP1, hK1, hD1⟩ := hB
    rw [ht] at hP1
    obtain ⟨hP, hD⟩ := va_join (wr := [(tn, .inr (10, [.int tnv0, .int tnv1, .int tnv2, .ref tn_3, .ref tn_4, .ref tn_5, .ref tn_6, .int tnv7, .int tnv8, .ref tn_9, .ref tn_10, .int tnv11, .ref tn_12, .ref tn_13, .ref tn_14, .ref tn_15, .int tnv16, .ref tn_17, .ref tn_18, .ref tnt])), (tn_13, .inl (k 0, 6, .inl tng13)), (tn_14, .inl (k 0, 6, .inl tng14))]) (w1 := []) hP hD [] [0, 1, 2] rfl rfl (by decide +kernel) (by decide +kernel) hk1 hFc hP1 hD1
    clear hK1 hP1 hD1 hPc hDc hFc
    clear hk1 hz1 ht hvm
    have hP : va_P D vwCl [(tn, .inr (10, [.int tnv0, .int tnv1, .int tnv2, .ref tn_3, .ref tn_4, .ref tn_5, .ref tn_6, .int tnv7, .int tnv8, .ref tn_9, .ref tn_10, .int tnv11, .ref tn_12, .ref tn_13, .ref tn_14, .ref tn_15, .int tnv16, .ref tn_17, .ref tn_18, .ref tnt])), (tn_13, .inl (k 0, 6, .inl tng13)), (tn_14, .inl (k 0, 6, .inl tng14))] H1 := hP
    have hD : va_D A [(tn, .inr (10, [.int tnv0, .int tnv1, .int tnv2, .ref tn_3, .ref tn_4, .ref tn_5, .ref tn_6, .int tnv7, .int tnv8, .ref tn_9, .ref tn_10, .int tnv11, .ref tn_12, .ref tn_13, .ref tn_14, .ref tn_15, .int tnv16, .ref tn_17, .ref tn_18, .ref tnt])), (tn_13, .inl (k 0, 6, .inl tng13)), (tn_14, .inl (k 0, 6, .inl tng14))] := hD
    generalize H1 = H at hP hS ⊢
    clear hw
    refine lv_isub hx hb dX1_gladAt_26 ?_
    refine lv_topi (fun x_7 ex_7 => ?_)
    have zrr_5 := z_rng r_5
    obtain ⟨hPc, hDc, hFc⟩ := sub3 hP hD hS hA (ws' := []) [] (by decide +kernel) rfl
    refine va_calli (va_runS (As := [.int 0, .int x_7]) (rest := []) ⟨hx, hb, hml, hown, hts⟩ (c_J9_max_7cf53 l D k 0 x_7 H.size) (va_cwS 2 hts (gS tw_4_10 tw_4_11 tw_1_14 tw_4_12) rfl rfl rfl hdS_J9_max_7cf53 ⟨Nat.le_of_ble_eq_true rfl, Nat.le_of_ble_eq_true rfl⟩) (cz_S hK hPc hDc hN [.int 0, .int x_7]) rfl rfl hl.1 rfl (lv_room (Nat.le_of_ble_eq_true rfl)) dX1_gladAt_27 ⟨Nat.le_of_ble_eq_true rfl, Nat.le_of_ble_eq_true rfl⟩) hS (fun q _ h => hFc q h) hFc (fun r_8 uZ tZ H1 locs ht hvm hw hB hz1 hk1 hS => ?_)
    obtain ⟨hP1, hK1, hD1⟩ := hB
    rw [ht] at hP1
    obtain ⟨hP, hD⟩ := va_join (wr := [(tn, .inr (10, [.int tnv0, .int tnv1, .int tnv2, .ref tn_3, .ref tn_4, .ref tn_5, .ref tn_6, .int tnv7, .int tnv8, .ref tn_9, .ref tn_10, .int tnv11, .ref tn_12, .ref tn_13, .ref tn_14, .ref tn_15, .int tnv16, .ref tn_17, .ref tn_18, .ref tnt])), (tn_13, .inl (k 0, 6, .inl tng13)), (tn_14, .inl (k 0, 6, .inl tng14))]) (w1 := []) hP hD [] [0, 1, 2] rfl rfl (by decide +kernel) (by decide +kernel) hk1 hFc hP1 hD1
    clear hK1 hP1 hD1 hPc hDc hFc
    clear hk1 hz1 ht hvm
    have hP : va_P D vwCl [(tn, .inr (10, [.int tnv0, .int tnv1, .int tnv2, .ref tn_3, .ref tn_4, .ref tn_5, .ref tn_6, .int tnv7, .int tnv8, .ref tn_9, .ref tn_10, .int tnv11, .ref tn_12, .ref tn_13, .ref tn_14, .ref tn_15, .int tnv16, .ref tn_17, .ref tn_18, .ref tnt])), (tn_13, .inl (k 0, 6, .inl tng13)), (tn_14, .inl (k 0, 6, .inl tng14))] H1 := hP
    have hD : va_D A [(tn, .inr (10, [.int tnv0, .int tnv1, .int tnv2, .ref tn_3, .ref tn_4, .ref tn_5, .ref tn_6, .int tnv7, .int tnv8, .ref tn_9, .ref tn_10, .int tnv11, .ref tn_12, .ref tn_13, .ref tn_14, .ref tn_15, .int tnv16, .ref tn_17, .ref tn_18, .ref tnt])), (tn_13, .inl (k 0, 6, .inl tng13)), (tn_14, .inl (k 0, 6, .inl tng14))] := hD
    generalize H1 = H at hP hS ⊢
    have hw_9 : (0 ≤ r_8.toInt ∧ x_7.toInt ≤ r_8.toInt ∧ (r_8.toInt = 0 ∨ r_8.toInt = x_7.toInt)) := hw
    have hw_10 := hw_9
    clear hw
    obtain ⟨hP9, hD9⟩ := sub2 hP hD (ws' := [(tn, .inr (10, [.int tnv0, .int tnv1, .int tnv2, .ref tn_3, .ref tn_4, .ref tn_5, .ref tn_6, .int tnv7, .int tnv8, .ref tn_9, .ref tn_10, .int tnv11, .ref tn_12, .ref tn_13, .ref tn_14, .ref tn_15, .int tnv16, .ref tn_17, .ref tn_18, .ref tnt])), (tn_13, .inl (k 0, 6, .inl tng13)), (tn_14, .inl (k 0, 6, .inl tng14))]) [0, 1, 2] (by decide +kernel) rfl
    exact W.iret (v := r_8) hx hb hr (fun tZ ht hW => ⟨⟨r_8, (), rfl, (show 0 ≤ r_8.toInt ∧ r_8.toInt ≤ 2147483647 from by have := z_rng r_8; omega), by rw [ht]; exact hP9, va_K.moved hW.alike hK, hD9⟩, hS.F ht⟩) hS.2.2 dX1_gladAt_30
  · skip
    have zh_1 : 1000000 ≤ p2.toInt := z_nlt h_1
    refine lv_iconst (v := 0) hx hb dX1_gladAt_6 (by decide) ?_
    obtain ⟨hP9, hD9⟩ := sub2 hP hD (ws' := [(tn, .inr (10, [.int tnv0, .int tnv1, .int tnv2, .ref tn_3, .ref tn_4, .ref tn_5, .ref tn_6, .int tnv7, .int tnv8, .ref tn_9, .ref tn_10, .int tnv11, .ref tn_12, .ref tn_13, .ref tn_14, .ref tn_15, .int tnv16, .ref tn_17, .ref tn_18, .ref tnt])), (tn_13, .inl (k 0, 6, .inl tng13)), (tn_14, .inl (k 0, 6, .inl tng14))]) [0, 1, 2] (by decide +kernel) rfl
    exact W.iret (v := 0) hx hb hr (fun tZ ht hW => ⟨⟨0, (), rfl, (show 0 ≤ 0 ∧ 0 ≤ 2147483647 from by omega), by rw [ht]; exact hP9, va_K.moved hW.alike hK, hD9⟩, hS.F ht⟩) hS.2.2 dX1_gladAt_7
set_option maxHeartbeats 4000000 in
set_option maxRecDepth 100000 in
theorem c_X1_gladOf (l : Launch) (D : va_G) (k : Nat → ClassId) (ob : Nat) (tn : Nat) (p1 : Int32) (ob_0 : Nat) (obv1 : Int32) (obv2 : Int32) (obg0 : Nat → Int32) (tnv0 : Int32) (tnv1 : Int32) (tnv2 : Int32) (tn_3 : Nat) (tn_4 : Nat) (tn_5 : Nat) (tn_6 : Nat) (tnv7 : Int32) (tnv8 : Int32) (tn_9 : Nat) (tn_10 : Nat) (tnv11 : Int32) (tn_12 : Nat) (tn_13 : Nat) (tn_14 : Nat) (tn_15 : Nat) (tnv16 : Int32) (tn_17 : Nat) (tn_18 : Nat) (tnt : Nat) (tng12 : Nat → Int32) (tng13 : Nat → Int32) (tng14 : Nat → Int32) (sz : Nat) (h_p1 : 0 ≤ p1.toInt ∧ p1.toInt ≤ 5) (hp_obg0_0 : PR 8 1 0 0 1000000 obg0) (h_tnv0 : 0 ≤ tnv0.toInt ∧ tnv0.toInt ≤ 8) (h_tnv2 : 0 ≤ tnv2.toInt ∧ tnv2.toInt ≤ 10) (h_tnv8 : 0 ≤ tnv8.toInt ∧ tnv8.toInt ≤ 4) (h_tnv11 : 0 ≤ tnv11.toInt ∧ tnv11.toInt ≤ 6) (h_tnv16 : 0 ≤ tnv16.toInt ∧ tnv16.toInt ≤ 2) (hp_tng12_0 : PR 6 1 0 0 7 tng12) (hp_tng13_0 : PR 6 1 0 0 999 tng13) (hp_tng14_0 : PR 6 1 0 0 999 tng14) : Met l yX1_gladOf (ww yX1_gladOf cX1_gladOf 3 (some .int)) ({ frames := 2, cells := 0, slots := 0, locals := 43 }) (Pre0 D k [(ob, .inr (1, [.ref ob_0, .int obv1, .int obv2])), (ob_0, .inl (k 0, 8, .inl obg0)), (tn, .inr (10, [.int tnv0, .int tnv1, .int tnv2, .ref tn_3, .ref tn_4, .ref tn_5, .ref tn_6, .int tnv7, .int tnv8, .ref tn_9, .ref tn_10, .int tnv11, .ref tn_12, .ref tn_13, .ref tn_14, .ref tn_15, .int tnv16, .ref tn_17, .ref tn_18, .ref tnt])), (tn_12, .inl (k 0, 6, .inl tng12)), (tn_13, .inl (k 0, 6, .inl tng13)), (tn_14, .inl (k 0, 6, .inl tng14))] sz [.ref ob, .ref tn, .int p1]) (va_Qi (fun (r : Int32) (_ : Unit) => (0 ≤ r.toInt ∧ r.toInt ≤ 2147483647)) (fun (_ : Unit) tZ => Bw D k (va_A [(ob, .inr (1, [.ref ob_0, .int obv1, .int obv2])), (ob_0, .inl (k 0, 8, .inl obg0)), (tn, .inr (10, [.int tnv0, .int tnv1, .int tnv2, .ref tn_3, .ref tn_4, .ref tn_5, .ref tn_6, .int tnv7, .int tnv8, .ref tn_9, .ref tn_10, .int tnv11, .ref tn_12, .ref tn_13, .ref tn_14, .ref tn_15, .int tnv16, .ref tn_17, .ref tn_18, .ref tnt])), (tn_12, .inl (k 0, 6, .inl tng12)), (tn_13, .inl (k 0, 6, .inl tng13)), (tn_14, .inl (k 0, 6, .inl tng14))] sz) [(ob, .inr (1, [.ref ob_0, .int obv1, .int obv2])), (ob_0, .inl (k 0, 8, .inl obg0)), (tn, .inr (10, [.int tnv0, .int tnv1, .int tnv2, .ref tn_3, .ref tn_4, .ref tn_5, .ref tn_6, .int tnv7, .int tnv8, .ref tn_9, .ref tn_10, .int tnv11, .ref tn_12, .ref tn_13, .ref tn_14, .ref tn_15, .int tnv16, .ref tn_17, .ref tn_18, .ref tnt])), (tn_12, .inl (k 0, 6, .inl tng12)), (tn_13, .inl (k 0, 6, .inl tng13)), (tn_14, .inl (k 0, 6, .inl tng14))] tZ) (va_A [(ob, .inr (1, [.ref ob_0, .int obv1, .int obv2])), (ob_0, .inl (k 0, 8, .inl obg0)), (tn, .inr (10, [.int tnv0, .int tnv1, .int tnv2, .ref tn_3, .ref tn_4, .ref tn_5, .ref tn_6, .int tnv7, .int tnv8, .ref tn_9, .ref tn_10, .int tnv11, .ref tn_12, .ref tn_13, .ref tn_14, .ref tn_15, .int tnv16, .ref tn_17, .ref tn_18, .ref tnt])), (tn_12, .inl (k 0, 6, .inl tng12)), (tn_13, .inl (k 0, 6, .inl tng13)), (tn_14, .inl (k 0, 6, .inl tng14))] sz)) 0 0 (va_A [(ob, .inr (1, [.ref ob_0, .int obv1, .int obv2])), (ob_0, .inl (k 0, 8, .inl obg0)), (tn, .inr (10, [.int tnv0, .int tnv1, .int tnv2, .ref tn_3, .ref tn_4, .ref tn_5, .ref tn_6, .int tnv7, .int tnv8, .ref tn_9, .ref tn_10, .int tnv11, .ref tn_12, .ref tn_13, .ref tn_14, .ref tn_15, .int tnv16, .ref tn_17, .ref tn_18, .ref tnt])), (tn_12, .inl (k 0, 6, .inl tng12)), (tn_13, .inl (k 0, 6, .inl tng13)), (tn_14, .inl (k 0, 6, .inl tng14))] sz) := by
  refine Met.ofW (cc := cX1_gladOf) (maxL := 3) (ret := (some .int)) (by decide +kernel) rfl ?_
  intro p e s m args below meth c s₁ B hml hv
  obtain ⟨rfl, hsz, hP, hK, hD0, hN⟩ := hv
  have hx := B.exec
  have hb := B.bytes
  have hr := B.returns
  have hts : ∀ w ∈ TT, w.before _ s = true := fun w h => atoms_spec (ws := ww yX1_gladOf cX1_gladOf 3 (some .int)) B.pre w (List.mem_cons_of_mem _ h)
  have hown : s.vm.findClass RX1 = some m.cls := findClass_of_methodNamed B.named
  have hlocks := B.notSynchronized
  subst hsz
  have hD := hD0.self (sz := s.heap.size)
  generalize hAe : va_A [(ob, .inr (1, [.ref ob_0, .int obv1, .int obv2])), (ob_0, .inl (k 0, 8, .inl obg0)), (tn, .inr (10, [.int tnv0, .int tnv1, .int tnv2, .ref tn_3, .ref tn_4, .ref tn_5, .ref tn_6, .int tnv7, .int tnv8, .ref tn_9, .ref tn_10, .int tnv11, .ref tn_12, .ref tn_13, .ref tn_14, .ref tn_15, .int tnv16, .ref tn_17, .ref tn_18, .ref tnt])), (tn_12, .inl (k 0, 6, .inl tng12)), (tn_13, .inl (k 0, 6, .inl tng13)), (tn_14, .inl (k 0, 6, .inl tng14))] s.heap.size = A at hD ⊢
  have hA : ∀ q : Nat, s.heap.size ≤ q → A q := fun q h => by rw [← hAe]; exact Or.inr h
  have hS : va_S A s.heap s.heap [] := va_S.rf
  have hl := lv_entry ([.ref ob, .ref tn, .int p1]) (n := 3) (Nat.le_of_ble_eq_true rfl)
  rw [lg_entry_eq]
  generalize (lg_sl ([.ref ob, .ref tn, .int p1]) ++ List.replicate (3 - (lg_sl ([.ref ob, .ref tn, .int p1])).length) Slot.unset).toArray = ls at hl ⊢
  have hl : lv_has ls 3 [(0, .ref ob), (1, .ref tn), (2, .int p1)] := hl
  refine lv_aload_n hx hb dX1_gladOf_0 rfl (lv_at hl 1 rfl) ?_
  refine lv_iload_n hx hb dX1_gladOf_1 rfl (lv_at hl 2 rfl) ?_
  refine lv_aload_n hx hb dX1_gladOf_2 rfl (lv_at hl 0 rfl) ?_
  refine va_get (D := D) (ci := 1) (v := .ref ob_0) (C := RX1) (T := TX1) (N := 3) hx hb hts iT_X1 hown hK hP 0 rfl rfl 0 (by decide) (hts _ tw_2_17) (fun _ h9 => h9) rfl dX1_gladOf_3 ?_
  refine lv_aload_n hx hb dX1_gladOf_6 rfl (lv_at hl 1 rfl) ?_
  refine va_get (D := D) (ci := 10) (v := .ref tn_12) (C := RX10) (T := TX10) (N := 20) hx hb hts iT_X10 hown hK hP 2 rfl rfl 12 (by decide) (hts _ tw_1_129) (fun _ h9 => h9) rfl dX1_gladOf_7 ?_
  refine lv_iload_n hx hb dX1_gladOf_10 rfl (lv_at hl 2 rfl) ?_
  refine va_iald hx hb hK hP 3 0 rfl rfl (z_in (by omega) (by omega)) dX1_gladOf_11 ?_
  refine lv_topi (fun x_1 ex_1 => ?_)
  have zx_1r0 : 0 ≤ x_1.toInt ∧ x_1.toInt ≤ 7 := by rw [ex_1]; exact PR.ld hp_tng12_0 (by omega) (by omega) (by omega)
  refine va_iald hx hb hK hP 1 0 rfl rfl (z_in (by omega) (by omega)) dX1_gladOf_12 ?_
  refine lv_topi (fun x_2 ex_2 => ?_)
  have zx_2r0 : 0 ≤ x_2.toInt ∧ x_2.toInt ≤ 1000000 := by rw [ex_2]; exact PR.ld hp_obg0_0 (by omega) (by omega) (by omega)
  obtain ⟨hPc, hDc, hFc⟩ := sub3 hP hD hS hA (ws' := [(tn, .inr (10, [.int tnv0, .int tnv1, .int tnv2, .ref tn_3, .ref tn_4, .ref tn_5, .ref tn_6, .int tnv7, .int tnv8, .ref tn_9, .ref tn_10, .int tnv11, .ref tn_12, .ref tn_13, .ref tn_14, .ref tn_15, .int tnv16, .ref tn_17, .ref tn_18, .ref tnt])), (tn_13, .inl (k 0, 6, .inl tng13)), (tn_14, .inl (k 0, 6, .inl tng14))]) [2, 4, 5] (by decide +kernel) rfl
  refine va_calli (va_runS (As := [.ref tn, .int p1, .int x_2]) (rest := []) ⟨hx, hb, hml, hown, hts⟩ (c_X1_gladAt l D k tn p1 x_2 tnv0 tnv1 tnv2 tn_3 tn_4 tn_5 tn_6 tnv7 tnv8 tn_9 tn_10 tnv11 tn_12 tn_13 tn_14 tn_15 tnv16 tn_17 tn_18 tnt tng13 tng14 s.heap.size (show 0 ≤ p1.toInt ∧ p1.toInt ≤ 5 from by omega) (show 0 ≤ tnv0.toInt ∧ tnv0.toInt ≤ 8 from by omega) (show 0 ≤ tnv2.toInt ∧ tnv2.toInt ≤ 10 from by omega) (show 0 ≤ tnv8.toInt ∧ tnv8.toInt ≤ 4 from by omega) (show 0 ≤ tnv11.toInt ∧ tnv11.toInt ≤ 6 from by omega) (show 0 ≤ tnv16.toInt ∧ tnv16.toInt ≤ 2 from by omega) hp_tng13_0 hp_tng14_0) (va_cwS 3 hts (gS tw_4_76 tw_4_77 tw_1_6 tw_4_78) rfl rfl rfl hdS_X1_gladAt ⟨Nat.le_of_ble_eq_true rfl, Nat.le_of_ble_eq_true rfl⟩) (cz_S hK hPc hDc hN [.ref tn, .int p1, .int x_2]) rfl rfl hl.1 rfl (lv_room (Nat.le_of_ble_eq_true rfl)) dX1_gladOf_13 ⟨Nat.le_of_ble_eq_true rfl, Nat.le_of_ble_eq_true rfl⟩) hS (fun q _ h => hFc q h) hFc (fun r_3 uZ tZ H1 locs ht hvm hw hB hz1 hk1 hS => ?_)
  obtain ⟨hP1, hK1, hD1⟩ := hB
  rw [ht] at hP1
  obtain ⟨hP, hD⟩ := va_join (wr := [(ob, .inr (1, [.ref ob_0, .int obv1, .int obv2])), (ob_0, .inl (k 0, 8, .inl obg0)), (tn_12, .inl (k 0, 6, .inl tng12))]) (w1 := [(tn, .inr (10, [.int tnv0, .int tnv1, .int tnv2, .ref tn_3, .ref tn_4, .ref tn_5, .ref tn_6, .int tnv7, .int tnv8, .ref tn_9, .ref tn_10, .int tnv11, .ref tn_12, .ref tn_13, .ref tn_14, .ref tn_15, .int tnv16, .ref tn_17, .ref tn_18, .ref tnt])), (tn_13, .inl (k 0, 6, .inl tng13)), (tn_14, .inl (k 0, 6, .inl tng14))]) hP hD [2, 4, 5] [0, 1, 3] rfl rfl (by decide +kernel) (by decide +kernel) hk1 hFc hP1 hD1
  clear hK1 hP1 hD1 hPc hDc hFc
  clear hk1 hz1 ht hvm
  have hP : va_P D vwCl [(ob, .inr (1, [.ref ob_0, .int obv1, .int obv2])), (ob_0, .inl (k 0, 8, .inl obg0)), (tn_12, .inl (k 0, 6, .inl tng12)), (tn, .inr (10, [.int tnv0, .int tnv1, .int tnv2, .ref tn_3, .ref tn_4, .ref tn_5, .ref tn_6, .int tnv7, .int tnv8, .ref tn_9, .ref tn_10, .int tnv11, .ref tn_12, .ref tn_13, .ref tn_14, .ref tn_15, .int tnv16, .ref tn_17, .ref tn_18, .ref tnt])), (tn_13, .inl (k 0, 6, .inl tng13)), (tn_14, .inl (k 0, 6, .inl tng14))] H1 := hP
  have hD : va_D A [(ob, .inr (1, [.ref ob_0, .int obv1, .int obv2])), (ob_0, .inl (k 0, 8, .inl obg0)), (tn_12, .inl (k 0, 6, .inl tng12)), (tn, .inr (10, [.int tnv0, .int tnv1, .int tnv2, .ref tn_3, .ref tn_4, .ref tn_5, .ref tn_6, .int tnv7, .int tnv8, .ref tn_9, .ref tn_10, .int tnv11, .ref tn_12, .ref tn_13, .ref tn_14, .ref tn_15, .int tnv16, .ref tn_17, .ref tn_18, .ref tnt])), (tn_13, .inl (k 0, 6, .inl tng13)), (tn_14, .inl (k 0, 6, .inl tng14))] := hD
  generalize H1 = H at hP hS ⊢
  have hw_4 : (0 ≤ r_3.toInt ∧ r_3.toInt ≤ 2147483647) := hw
  have hw_5 := hw_4
  clear hw
  obtain ⟨hP9, hD9⟩ := sub2 hP hD (ws' := [(ob, .inr (1, [.ref ob_0, .int obv1, .int obv2])), (ob_0, .inl (k 0, 8, .inl obg0)), (tn, .inr (10, [.int tnv0, .int tnv1, .int tnv2, .ref tn_3, .ref tn_4, .ref tn_5, .ref tn_6, .int tnv7, .int tnv8, .ref tn_9, .ref tn_10, .int tnv11, .ref tn_12, .ref tn_13, .ref tn_14, .ref tn_15, .int tnv16, .ref tn_17, .ref tn_18, .ref tnt])), (tn_12, .inl (k 0, 6, .inl tng12)), (tn_13, .inl (k 0, 6, .inl tng13)), (tn_14, .inl (k 0, 6, .inl tng14))]) [0, 1, 3, 2, 4, 5] (by decide +kernel) rfl
  exact W.iret (v := r_3) hx hb hr (fun tZ ht hW => ⟨⟨r_3, (), rfl, (show 0 ≤ r_3.toInt ∧ r_3.toInt ≤ 2147483647 from by have := z_rng r_3; omega), by rw [ht]; exact hP9, va_K.moved hW.alike hK, hD9⟩, hS.F ht⟩) hS.2.2 dX1_gladOf_16
set_option maxHeartbeats 4000000 in
set_option maxRecDepth 100000 in
theorem c_X1_gladOfAll (l : Launch) (D : va_G) (k : Nat → ClassId) (ob : Nat) (tn : Nat) (ob_0 : Nat) (obv1 : Int32) (obv2 : Int32) (obg0 : Nat → Int32) (tnv0 : Int32) (tnv1 : Int32) (tnv2 : Int32) (tn_3 : Nat) (tn_4 : Nat) (tn_5 : Nat) (tn_6 : Nat) (tnv7 : Int32) (tnv8 : Int32) (tn_9 : Nat) (tn_10 : Nat) (tnv11 : Int32) (tn_12 : Nat) (tn_13 : Nat) (tn_14 : Nat) (tn_15 : Nat) (tnv16 : Int32) (tn_17 : Nat) (tn_18 : Nat) (tnt : Nat) (tng12 : Nat → Int32) (tng13 : Nat → Int32) (tng14 : Nat → Int32) (sz : Nat) (hp_obg0_0 : PR 8 1 0 0 1000000 obg0) (h_tnv0 : 0 ≤ tnv0.toInt ∧ tnv0.toInt ≤ 8) (h_tnv2 : 0 ≤ tnv2.toInt ∧ tnv2.toInt ≤ 10) (h_tnv8 : 0 ≤ tnv8.toInt ∧ tnv8.toInt ≤ 4) (h_tnv11 : 0 ≤ tnv11.toInt ∧ tnv11.toInt ≤ 6) (h_tnv16 : 0 ≤ tnv16.toInt ∧ tnv16.toInt ≤ 2) (hp_tng12_0 : PR 6 1 0 0 7 tng12) (hp_tng13_0 : PR 6 1 0 0 999 tng13) (hp_tng14_0 : PR 6 1 0 0 999 tng14) : Met l yX1_gladOfAll (ww yX1_gladOfAll cX1_gladOfAll 4 (some .int)) ({ frames := 3, cells := 0, slots := 0, locals := 65 }) (Pre0 D k [(ob, .inr (1, [.ref ob_0, .int obv1, .int obv2])), (ob_0, .inl (k 0, 8, .inl obg0)), (tn, .inr (10, [.int tnv0, .int tnv1, .int tnv2, .ref tn_3, .ref tn_4, .ref tn_5, .ref tn_6, .int tnv7, .int tnv8, .ref tn_9, .ref tn_10, .int tnv11, .ref tn_12, .ref tn_13, .ref tn_14, .ref tn_15, .int tnv16, .ref tn_17, .ref tn_18, .ref tnt])), (tn_12, .inl (k 0, 6, .inl tng12)), (tn_13, .inl (k 0, 6, .inl tng13)), (tn_14, .inl (k 0, 6, .inl tng14))] sz [.ref ob, .ref tn]) (va_Qi (fun (r : Int32) (_ : Unit) => True) (fun (_ : Unit) tZ => Bw D k (va_A [(ob, .inr (1, [.ref ob_0, .int obv1, .int obv2])), (ob_0, .inl (k 0, 8, .inl obg0)), (tn, .inr (10, [.int tnv0, .int tnv1, .int tnv2, .ref tn_3, .ref tn_4, .ref tn_5, .ref tn_6, .int tnv7, .int tnv8, .ref tn_9, .ref tn_10, .int tnv11, .ref tn_12, .ref tn_13, .ref tn_14, .ref tn_15, .int tnv16, .ref tn_17, .ref tn_18, .ref tnt])), (tn_12, .inl (k 0, 6, .inl tng12)), (tn_13, .inl (k 0, 6, .inl tng13)), (tn_14, .inl (k 0, 6, .inl tng14))] sz) [(ob, .inr (1, [.ref ob_0, .int obv1, .int obv2])), (ob_0, .inl (k 0, 8, .inl obg0)), (tn, .inr (10, [.int tnv0, .int tnv1, .int tnv2, .ref tn_3, .ref tn_4, .ref tn_5, .ref tn_6, .int tnv7, .int tnv8, .ref tn_9, .ref tn_10, .int tnv11, .ref tn_12, .ref tn_13, .ref tn_14, .ref tn_15, .int tnv16, .ref tn_17, .ref tn_18, .ref tnt])), (tn_12, .inl (k 0, 6, .inl tng12)), (tn_13, .inl (k 0, 6, .inl tng13)), (tn_14, .inl (k 0, 6, .inl tng14))] tZ) (va_A [(ob, .inr (1, [.ref ob_0, .int obv1, .int obv2])), (ob_0, .inl (k 0, 8, .inl obg0)), (tn, .inr (10, [.int tnv0, .int tnv1, .int tnv2, .ref tn_3, .ref tn_4, .ref tn_5, .ref tn_6, .int tnv7, .int tnv8, .ref tn_9, .ref tn_10, .int tnv11, .ref tn_12, .ref tn_13, .ref tn_14, .ref tn_15, .int tnv16, .ref tn_17, .ref tn_18, .ref tnt])), (tn_12, .inl (k 0, 6, .inl tng12)), (tn_13, .inl (k 0, 6, .inl tng13)), (tn_14, .inl (k 0, 6, .inl tng14))] sz)) 0 0 (va_A [(ob, .inr (1, [.ref ob_0, .int obv1, .int obv2])), (ob_0, .inl (k 0, 8, .inl obg0)), (tn, .inr (10, [.int tnv0, .int tnv1, .int tnv2, .ref tn_3, .ref tn_4, .ref tn_5, .ref tn_6, .int tnv7, .int tnv8, .ref tn_9, .ref tn_10, .int tnv11, .ref tn_12, .ref tn_13, .ref tn_14, .ref tn_15, .int tnv16, .ref tn_17, .ref tn_18, .ref tnt])), (tn_12, .inl (k 0, 6, .inl tng12)), (tn_13, .inl (k 0, 6, .inl tng13)), (tn_14, .inl (k 0, 6, .inl tng14))] sz) := by
  refine Met.ofW (cc := cX1_gladOfAll) (maxL := 4) (ret := (some .int)) (by decide +kernel) rfl ?_
  intro p e s m args below meth c s₁ B hml hv
  obtain ⟨rfl, hsz, hP, hK, hD0, hN⟩ := hv
  have hx := B.exec
  have hb := B.bytes
  have hr := B.returns
  have hts : ∀ w ∈ TT, w.before _ s = true := fun w h => atoms_spec (ws := ww yX1_gladOfAll cX1_gladOfAll 4 (some .int)) B.pre w (List.mem_cons_of_mem _ h)
  have hown : s.vm.findClass RX1 = some m.cls := findClass_of_methodNamed B.named
  have hlocks := B.notSynchronized
  subst hsz
  have hD := hD0.self (sz := s.heap.size)
  generalize hAe : va_A [(ob, .inr (1, [.ref ob_0, .int obv1, .int obv2])), (ob_0, .inl (k 0, 8, .inl obg0)), (tn, .inr (10, [.int tnv0, .int tnv1, .int tnv2, .ref tn_3, .ref tn_4, .ref tn_5, .ref tn_6, .int tnv7, .int tnv8, .ref tn_9, .ref tn_10, .int tnv11, .ref tn_12, .ref tn_13, .ref tn_14, .ref tn_15, .int tnv16, .ref tn_17, .ref tn_18, .ref tnt])), (tn_12, .inl (k 0, 6, .inl tng12)), (tn_13, .inl (k 0, 6, .inl tng13)), (tn_14, .inl (k 0, 6, .inl tng14))] s.heap.size = A at hD ⊢
  have hA : ∀ q : Nat, s.heap.size ≤ q → A q := fun q h => by rw [← hAe]; exact Or.inr h
  have hS : va_S A s.heap s.heap [] := va_S.rf
  have hl := lv_entry ([.ref ob, .ref tn]) (n := 4) (Nat.le_of_ble_eq_true rfl)
  rw [lg_entry_eq]
  generalize (lg_sl ([.ref ob, .ref tn]) ++ List.replicate (4 - (lg_sl ([.ref ob, .ref tn])).length) Slot.unset).toArray = ls at hl ⊢
  have hl : lv_has ls 4 [(0, .ref ob), (1, .ref tn)] := hl
  refine lv_iconst (v := 0) hx hb dX1_gladOfAll_0 (by decide) ?_
  refine lv_istore_n (lv' := [(2, .int 0), (0, .ref ob), (1, .ref tn)]) hx hb dX1_gladOfAll_1 rfl hl (by decide) rfl (fun ls hl => ?_)
  refine lv_iconst (v := 0) hx hb dX1_gladOfAll_2 (by decide) ?_
  refine lv_istore_n (lv' := [(3, .int 0), (2, .int 0), (0, .ref ob), (1, .ref tn)]) hx hb dX1_gladOfAll_3 rfl hl (by decide) rfl (fun ls hl => ?_)
  refine loop_r (Wg := fun H locs ls => W p l e _ s m _ below meth c H locs _ _ _ (F0 m 4 ls [])) (fun n9 H locs ls => ∃ (L4l2 : Int32) (L4l3 : Int32), n9 = (6 - L4l3.toInt).toNat ∧ (0 ≤ L4l3.toInt ∧ L4l3.toInt ≤ 6) ∧ va_P D vwCl [(ob, .inr (1, [.ref ob_0, .int obv1, .int obv2])), (ob_0, .inl (k 0, 8, .inl obg0)), (tn, .inr (10, [.int tnv0, .int tnv1, .int tnv2, .ref tn_3, .ref tn_4, .ref tn_5, .ref tn_6, .int tnv7, .int tnv8, .ref tn_9, .ref tn_10, .int tnv11, .ref tn_12, .ref tn_13, .ref tn_14, .ref tn_15, .int tnv16, .ref tn_17, .ref tn_18, .ref tnt])), (tn_12, .inl (k 0, 6, .inl tng12)), (tn_13, .inl (k 0, 6, .inl tng13)), (tn_14, .inl (k 0, 6, .inl tng14))] H ∧ va_D A [(ob, .inr (1, [.ref ob_0, .int obv1, .int obv2])), (ob_0, .inl (k 0, 8, .inl obg0)), (tn, .inr (10, [.int tnv0, .int tnv1, .int tnv2, .ref tn_3, .ref tn_4, .ref tn_5, .ref tn_6, .int tnv7, .int tnv8, .ref tn_9, .ref tn_10, .int tnv11, .ref tn_12, .ref tn_13, .ref tn_14, .ref tn_15, .int tnv16, .ref tn_17, .ref tn_18, .ref tnt])), (tn_12, .inl (k 0, 6, .inl tng12)), (tn_13, .inl (k 0, 6, .inl tng13)), (tn_14, .inl (k 0, 6, .inl tng14))] ∧ va_S A s.heap H locs ∧ lv_has ls 4 [(0, .ref ob), (1, .ref tn), (2, .int L4l2), (3, .int L4l3)]) (fun n9 H locs ls hI ih_1 => ?_) _ _ _ _ ⟨0, 0, rfl, (show 0 ≤ 0 ∧ 0 ≤ 6 from by omega), hP.sub (ws' := [(ob, .inr (1, [.ref ob_0, .int obv1, .int obv2])), (ob_0, .inl (k 0, 8, .inl obg0)), (tn, .inr (10, [.int tnv0, .int tnv1, .int tnv2, .ref tn_3, .ref tn_4, .ref tn_5, .ref tn_6, .int tnv7, .int tnv8, .ref tn_9, .ref tn_10, .int tnv11, .ref tn_12, .ref tn_13, .ref tn_14, .ref tn_15, .int tnv16, .ref tn_17, .ref tn_18, .ref tnt])), (tn_12, .inl (k 0, 6, .inl tng12)), (tn_13, .inl (k 0, 6, .inl tng13)), (tn_14, .inl (k 0, 6, .inl tng14))]) [0, 1, 2, 3, 4, 5] rfl, hD.sub (ws' := [(ob, .inr (1, [.ref ob_0, .int obv1, .int obv2])), (ob_0, .inl (k 0, 8, .inl obg0)), (tn, .inr (10, [.int tnv0, .int tnv1, .int tnv2, .ref tn_3, .ref tn_4, .ref tn_5, .ref tn_6, .int tnv7, .int tnv8, .ref tn_9, .ref tn_10, .int tnv11, .ref tn_12, .ref tn_13, .ref tn_14, .ref tn_15, .int tnv16, .ref tn_17, .ref tn_18, .ref tnt])), (tn_12, .inl (k 0, 6, .inl tng12)), (tn_13, .inl (k 0, 6, .inl tng13)), (tn_14, .inl (k 0, 6, .inl tng14))]) [0, 1, 2, 3, 4, 5] (by decide +kernel) rfl, hS, lv_sub hl [2, 3, 1, 0] rfl⟩
  clear hP hD hS hl
  obtain ⟨L4l2, L4l3, en_2, zL4l3, hP, hD, hS, hl⟩ := hI
  refine lv_iload_n hx hb dX1_gladOfAll_4 rfl (lv_at hl 3 rfl) ?_
  refine lv_aload_n hx hb dX1_gladOfAll_5 rfl (lv_at hl 1 rfl) ?_
  refine va_get (D := D) (ci := 10) (v := .int tnv11) (C := RX10) (T := TX10) (N := 20) hx hb hts iT_X10 hown hK hP 2 rfl rfl 11 (by decide) (hts _ tw_1_123) (fun _ h9 => h9) rfl dX1_gladOfAll_6 ?_
  refine lv_icmp_ge (tgt := 27) hx hb dX1_gladOfAll_9 (by decide) (fun h_3 => ?_) (fun h_3 => ?_)
  · skip
    have zh_3 : tnv11.toInt ≤ L4l3.toInt := z_le h_3
    refine lv_iload_n hx hb dX1_gladOfAll_27 rfl (lv_at hl 2 rfl) ?_
    obtain ⟨hP9, hD9⟩ := sub2 hP hD (ws' := [(ob, .inr (1, [.ref ob_0, .int obv1, .int obv2])), (ob_0, .inl (k 0, 8, .inl obg0)), (tn, .inr (10, [.int tnv0, .int tnv1, .int tnv2, .ref tn_3, .ref tn_4, .ref tn_5, .ref tn_6, .int tnv7, .int tnv8, .ref tn_9, .ref tn_10, .int tnv11, .ref tn_12, .ref tn_13, .ref tn_14, .ref tn_15, .int tnv16, .ref tn_17, .ref tn_18, .ref tnt])), (tn_12, .inl (k 0, 6, .inl tng12)), (tn_13, .inl (k 0, 6, .inl tng13)), (tn_14, .inl (k 0, 6, .inl tng14))]) [0, 1, 2, 3, 4, 5] (by decide +kernel) rfl
    exact W.iret (v := L4l2) hx hb hr (fun tZ ht hW => ⟨⟨L4l2, (), rfl, trivial, by rw [ht]; exact hP9, va_K.moved hW.alike hK, hD9⟩, hS.F ht⟩) hS.2.2 dX1_gladOfAll_28
  · skip
    have zh_3 : L4l3.toInt < tnv11.toInt := z_nle h_3
    refine lv_iload_n hx hb dX1_gladOfAll_12 rfl (lv_at hl 2 rfl) ?_
    refine lv_aload_n hx hb dX1_gladOfAll_13 rfl (lv_at hl 0 rfl) ?_
    refine lv_aload_n hx hb dX1_gladOfAll_14 rfl (lv_at hl 1 rfl) ?_
    refine lv_iload_n hx hb dX1_gladOfAll_15 rfl (lv_at hl 3 rfl) ?_
    obtain ⟨hPc, hDc, hFc⟩ := sub3 hP hD hS hA (ws' := [(ob, .inr (1, [.ref ob_0, .int obv1, .int obv2])), (ob_0, .inl (k 0, 8, .inl obg0)), (tn, .inr (10, [.int tnv0, .int tnv1, .int tnv2, .ref tn_3, .ref tn_4, .ref tn_5, .ref tn_6, .int tnv7, .int tnv8, .ref tn_9, .ref tn_10, .int tnv11, .ref tn_12, .ref tn_13, .ref tn_14, .ref tn_15, .int tnv16, .ref tn_17, .ref tn_18, .ref tnt])), (tn_12, .inl (k 0, 6, .inl tng12)), (tn_13, .inl (k 0, 6, .inl tng13)), (tn_14, .inl (k 0, 6, .inl tng14))]) [0, 1, 2, 3, 4, 5] (by decide +kernel) rfl
    refine va_calli (va_runV (C := RX1) (As := [.ref tn, .int L4l3]) (rest := [.int L4l2]) ⟨hx, hb, hml, hown, hts⟩ (c_X1_gladOf l D k ob tn L4l3 ob_0 obv1 obv2 obg0 tnv0 tnv1 tnv2 tn_3 tn_4 tn_5 tn_6 tnv7 tnv8 tn_9 tn_10 tnv11 tn_12 tn_13 tn_14 tn_15 tnv16 tn_17 tn_18 tnt tng12 tng13 tng14 H.size (show 0 ≤ L4l3.toInt ∧ L4l3.toInt ≤ 5 from by omega) hp_obg0_0 (show 0 ≤ tnv0.toInt ∧ tnv0.toInt ≤ 8 from by omega) (show 0 ≤ tnv2.toInt ∧ tnv2.toInt ≤ 10 from by omega) (show 0 ≤ tnv8.toInt ∧ tnv8.toInt ≤ 4 from by omega) (show 0 ≤ tnv11.toInt ∧ tnv11.toInt ≤ 6 from by omega) (show 0 ≤ tnv16.toInt ∧ tnv16.toInt ≤ 2 from by omega) hp_tng12_0 hp_tng13_0 hp_tng14_0) (cwV 2 hts (gV tw_4_90 tw_4_73 tw_4_74 tw_1_6 tw_4_75) rfl rfl rfl hdV_X1_gladOf ⟨Nat.le_of_ble_eq_true rfl, Nat.le_of_ble_eq_true rfl⟩) (cz_V hK hPc hDc hN (ci := 1) (q0 := 0) rfl rfl [.ref tn, .int L4l3]) rfl rfl hl.1 rfl (lv_room (Nat.le_of_ble_eq_true rfl)) dX1_gladOfAll_16 ⟨Nat.le_of_ble_eq_true rfl, Nat.le_of_ble_eq_true rfl⟩) hS (fun q _ h => hFc q h) hFc (fun r_4 uZ tZ H1 locs ht hvm hw hB hz1 hk1 hS => ?_)
    obtain ⟨hP1, hK1, hD1⟩ := hB
    rw [ht] at hP1
    obtain ⟨hP, hD⟩ := va_join (wr := []) (w1 := [(ob, .inr (1, [.ref ob_0, .int obv1, .int obv2])), (ob_0, .inl (k 0, 8, .inl obg0)), (tn, .inr (10, [.int tnv0, .int tnv1, .int tnv2, .ref tn_3, .ref tn_4, .ref tn_5, .ref tn_6, .int tnv7, .int tnv8, .ref tn_9, .ref tn_10, .int tnv11, .ref tn_12, .ref tn_13, .ref tn_14, .ref tn_15, .int tnv16, .ref tn_17, .ref tn_18, .ref tnt])), (tn_12, .inl (k 0, 6, .inl tng12)), (tn_13, .inl (k 0, 6, .inl tng13)), (tn_14, .inl (k 0, 6, .inl tng14))]) hP hD [0, 1, 2, 3, 4, 5] [] rfl rfl (by decide +kernel) (by decide +kernel) hk1 hFc hP1 hD1
    clear hK1 hP1 hD1 hPc hDc hFc
    clear hk1 hz1 ht hvm
    have hP : va_P D vwCl [(ob, .inr (1, [.ref ob_0, .int obv1, .int obv2])), (ob_0, .inl (k 0, 8, .inl obg0)), (tn, .inr (10, [.int tnv0, .int tnv1, .int tnv2, .ref tn_3, .ref tn_4, .ref tn_5, .ref tn_6, .int tnv7, .int tnv8, .ref tn_9, .ref tn_10, .int tnv11, .ref tn_12, .ref tn_13, .ref tn_14, .ref tn_15, .int tnv16, .ref tn_17, .ref tn_18, .ref tnt])), (tn_12, .inl (k 0, 6, .inl tng12)), (tn_13, .inl (k 0, 6, .inl tng13)), (tn_14, .inl (k 0, 6, .inl tng14))] H1 := hP
    have hD : va_D A [(ob, .inr (1, [.ref ob_0, .int obv1, .int obv2])), (ob_0, .inl (k 0, 8, .inl obg0)), (tn, .inr (10, [.int tnv0, .int tnv1, .int tnv2, .ref tn_3, .ref tn_4, .ref tn_5, .ref tn_6, .int tnv7, .int tnv8, .ref tn_9, .ref tn_10, .int tnv11, .ref tn_12, .ref tn_13, .ref tn_14, .ref tn_15, .int tnv16, .ref tn_17, .ref tn_18, .ref tnt])), (tn_12, .inl (k 0, 6, .inl tng12)), (tn_13, .inl (k 0, 6, .inl tng13)), (tn_14, .inl (k 0, 6, .inl tng14))] := hD
    generalize H1 = H at hP hS ⊢
    have hw_5 : (0 ≤ r_4.toInt ∧ r_4.toInt ≤ 2147483647) := hw
    have hw_6 := hw_5
    clear hw
    refine lv_iadd hx hb dX1_gladOfAll_19 ?_
    refine lv_topi (fun x_7 ex_7 => ?_)
    have zrL4l2 := z_rng L4l2
    have zrr_4 := z_rng r_4
    refine lv_istore_n (lv' := [(2, .int x_7), (0, .ref ob), (1, .ref tn), (3, .int L4l3)]) hx hb dX1_gladOfAll_20 rfl hl (by decide) rfl (fun ls hl => ?_)
    obtain ⟨x_8, ex_8⟩ : ∃ y : Int32, y = L4l3 + 1 := ⟨_, rfl⟩
    have zx_8 : x_8.toInt = L4l3.toInt + 1 := by rw [ex_8]; exact z_add rfl rfl (by omega) (by omega)
    refine lv_iinc (v := x_8) (lv' := [(3, .int x_8), (2, .int x_7), (0, .ref ob), (1, .ref tn)]) hx hb dX1_gladOfAll_21 hl (k := 3) rfl (by rw [ex_8]; rfl) (by decide) rfl (fun ls hl => ?_)
    refine lv_goto (tgt := 4) hx hb dX1_gladOfAll_24 (by decide) ?_
    exact ih_1 _ _ _ _ (by omega) ⟨x_7, x_8, rfl, (show 0 ≤ x_8.toInt ∧ x_8.toInt ≤ 6 from by omega), hP.sub (ws' := [(ob, .inr (1, [.ref ob_0, .int obv1, .int obv2])), (ob_0, .inl (k 0, 8, .inl obg0)), (tn, .inr (10, [.int tnv0, .int tnv1, .int tnv2, .ref tn_3, .ref tn_4, .ref tn_5, .ref tn_6, .int tnv7, .int tnv8, .ref tn_9, .ref tn_10, .int tnv11, .ref tn_12, .ref tn_13, .ref tn_14, .ref tn_15, .int tnv16, .ref tn_17, .ref tn_18, .ref tnt])), (tn_12, .inl (k 0, 6, .inl tng12)), (tn_13, .inl (k 0, 6, .inl tng13)), (tn_14, .inl (k 0, 6, .inl tng14))]) [0, 1, 2, 3, 4, 5] rfl, hD.sub (ws' := [(ob, .inr (1, [.ref ob_0, .int obv1, .int obv2])), (ob_0, .inl (k 0, 8, .inl obg0)), (tn, .inr (10, [.int tnv0, .int tnv1, .int tnv2, .ref tn_3, .ref tn_4, .ref tn_5, .ref tn_6, .int tnv7, .int tnv8, .ref tn_9, .ref tn_10, .int tnv11, .ref tn_12, .ref tn_13, .ref tn_14, .ref tn_15, .int tnv16, .ref tn_17, .ref tn_18, .ref tnt])), (tn_12, .inl (k 0, 6, .inl tng12)), (tn_13, .inl (k 0, 6, .inl tng13)), (tn_14, .inl (k 0, 6, .inl tng14))]) [0, 1, 2, 3, 4, 5] (by decide +kernel) rfl, hS, lv_sub hl [2, 3, 1, 0] rfl⟩
set_option maxHeartbeats 4000000 in
set_option maxRecDepth 100000 in
theorem c_X2_learnGate (l : Launch) (D : va_G) (k : Nat → ClassId) (ob : Nat) (tn : Nat) (p1 : Int32) (obv0 : Int32) (obb : Nat) (ob_2 : Nat) (ob_3 : Nat) (ob_4 : Nat) (ob_5 : Nat) (obb_0 : Nat) (obbv1 : Int32) (obbv2 : Int32) (obbg0 : Nat → Int32) (obg2 : Nat → Int32) (obg3 : Nat → Int32) (tnv0 : Int32) (tnv1 : Int32) (tnv2 : Int32) (tn_3 : Nat) (tn_4 : Nat) (tn_5 : Nat) (tn_6 : Nat) (tnv7 : Int32) (tnv8 : Int32) (tn_9 : Nat) (tn_10 : Nat) (tnv11 : Int32) (tn_12 : Nat) (tn_13 : Nat) (tn_14 : Nat) (tn_15 : Nat) (tnv16 : Int32) (tn_17 : Nat) (tn_18 : Nat) (tnt : Nat) (tng3 : Nat → Int32) (tng4 : Nat → Int32) (tng5 : Nat → Int32) (tng9 : Nat → Int32) (tng10 : Nat → Int32) (sz : Nat) (h_p1 : 0 ≤ p1.toInt ∧ p1.toInt ≤ 3) (hp_obbg0_0 : PR 8 1 0 0 1000000 obbg0) (hp_obg2_0 : PR 32 1 0 0 1000000 obg2) (hp_obg3_0 : PR 32 1 0 0 1000000 obg3) (h_tnv0 : 0 ≤ tnv0.toInt ∧ tnv0.toInt ≤ 8) (h_tnv2 : 0 ≤ tnv2.toInt ∧ tnv2.toInt ≤ 10) (h_tnv8 : 0 ≤ tnv8.toInt ∧ tnv8.toInt ≤ 4) (h_tnv11 : 0 ≤ tnv11.toInt ∧ tnv11.toInt ≤ 6) (h_tnv16 : 0 ≤ tnv16.toInt ∧ tnv16.toInt ≤ 2) (hp_tng3_0 : PR 10 1 0 0 7 tng3) (hp_tng4_0 : PR 10 1 0 0 7 tng4) (hp_tng5_0 : PR 10 1 0 0 60 tng5) (hp_tng9_0 : PR 4 1 0 0 7 tng9) (hp_tng10_0 : PR 4 1 0 0 99 tng10) : Met l yX2_learnGate (ww yX2_learnGate cX2_learnGate 3 none) ({ frames := 3, cells := 0, slots := 0, locals := 77 }) (Pre0 D k [(ob, .inr (2, [.int obv0, .ref obb, .ref ob_2, .ref ob_3, .ref ob_4, .ref ob_5])), (obb, .inr (1, [.ref obb_0, .int obbv1, .int obbv2])), (obb_0, .inl (k 0, 8, .inl obbg0)), (ob_2, .inl (k 0, 32, .inl obg2)), (ob_3, .inl (k 0, 32, .inl obg3)), (tn, .inr (10, [.int tnv0, .int tnv1, .int tnv2, .ref tn_3, .ref tn_4, .ref tn_5, .ref tn_6, .int tnv7, .int tnv8, .ref tn_9, .ref tn_10, .int tnv11, .ref tn_12, .ref tn_13, .ref tn_14, .ref tn_15, .int tnv16, .ref tn_17, .ref tn_18, .ref tnt])), (tn_3, .inl (k 0, 10, .inl tng3)), (tn_4, .inl (k 0, 10, .inl tng4)), (tn_5, .inl (k 0, 10, .inl tng5)), (tn_9, .inl (k 0, 4, .inl tng9)), (tn_10, .inl (k 0, 4, .inl tng10))] sz [.ref ob, .ref tn, .int p1]) (va_Qv (fun (u : Int32 × Int32 × (Nat → Int32) × (Nat → Int32) × (Nat → Int32)) => match u with | (obbv1z, obbv2z, obbg0z, obg2z, obg3z) => (PR 8 1 0 0 1000000 obbg0z) ∧ (PR 32 1 0 0 1000000 obg2z) ∧ (PR 32 1 0 0 1000000 obg3z)) (fun (u : Int32 × Int32 × (Nat → Int32) × (Nat → Int32) × (Nat → Int32)) tZ => match u with | (obbv1z, obbv2z, obbg0z, obg2z, obg3z) => Bw D k (va_A [(ob, .inr (2, [.int obv0, .ref obb, .ref ob_2, .ref ob_3, .ref ob_4, .ref ob_5])), (obb, .inr (1, [.ref obb_0, .int obbv1, .int obbv2])), (obb_0, .inl (k 0, 8, .inl obbg0)), (ob_2, .inl (k 0, 32, .inl obg2)), (ob_3, .inl (k 0, 32, .inl obg3)), (tn, .inr (10, [.int tnv0, .int tnv1, .int tnv2, .ref tn_3, .ref tn_4, .ref tn_5, .ref tn_6, .int tnv7, .int tnv8, .ref tn_9, .ref tn_10, .int tnv11, .ref tn_12, .ref tn_13, .ref tn_14, .ref tn_15, .int tnv16, .ref tn_17, .ref tn_18, .ref tnt])), (tn_3, .inl (k 0, 10, .inl tng3)), (tn_4, .inl (k 0, 10, .inl tng4)), (tn_5, .inl (k 0, 10, .inl tng5)), (tn_9, .inl (k 0, 4, .inl tng9)), (tn_10, .inl (k 0, 4, .inl tng10))] sz) [(ob, .inr (2, [.int obv0, .ref obb, .ref ob_2, .ref ob_3, .ref ob_4, .ref ob_5])), (obb, .inr (1, [.ref obb_0, .int obbv1z, .int obbv2z])), (obb_0, .inl (k 0, 8, .inl obbg0z)), (ob_2, .inl (k 0, 32, .inl obg2z)), (ob_3, .inl (k 0, 32, .inl obg3z)), (tn, .inr (10, [.int tnv0, .int tnv1, .int tnv2, .ref tn_3, .ref tn_4, .ref tn_5, .ref tn_6, .int tnv7, .int tnv8, .ref tn_9, .ref tn_10, .int tnv11, .ref tn_12, .ref tn_13, .ref tn_14, .ref tn_15, .int tnv16, .ref tn_17, .ref tn_18, .ref tnt])), (tn_3, .inl (k 0, 10, .inl tng3)), (tn_4, .inl (k 0, 10, .inl tng4)), (tn_5, .inl (k 0, 10, .inl tng5)), (tn_9, .inl (k 0, 4, .inl tng9)), (tn_10, .inl (k 0, 4, .inl tng10))] tZ) (va_A [(ob, .inr (2, [.int obv0, .ref obb, .ref ob_2, .ref ob_3, .ref ob_4, .ref ob_5])), (obb, .inr (1, [.ref obb_0, .int obbv1, .int obbv2])), (obb_0, .inl (k 0, 8, .inl obbg0)), (ob_2, .inl (k 0, 32, .inl obg2)), (ob_3, .inl (k 0, 32, .inl obg3)), (tn, .inr (10, [.int tnv0, .int tnv1, .int tnv2, .ref tn_3, .ref tn_4, .ref tn_5, .ref tn_6, .int tnv7, .int tnv8, .ref tn_9, .ref tn_10, .int tnv11, .ref tn_12, .ref tn_13, .ref tn_14, .ref tn_15, .int tnv16, .ref tn_17, .ref tn_18, .ref tnt])), (tn_3, .inl (k 0, 10, .inl tng3)), (tn_4, .inl (k 0, 10, .inl tng4)), (tn_5, .inl (k 0, 10, .inl tng5)), (tn_9, .inl (k 0, 4, .inl tng9)), (tn_10, .inl (k 0, 4, .inl tng10))] sz)) 0 0 (va_A [(ob, .inr (2, [.int obv0, .ref obb, .ref ob_2, .ref ob_3, .ref ob_4, .ref ob_5])), (obb, .inr (1, [.ref obb_0, .int obbv1, .int obbv2])), (obb_0, .inl (k 0, 8, .inl obbg0)), (ob_2, .inl (k 0, 32, .inl obg2)), (ob_3, .inl (k 0, 32, .inl obg3)), (tn, .inr (10, [.int tnv0, .int tnv1, .int tnv2, .ref tn_3, .ref tn_4, .ref tn_5, .ref tn_6, .int tnv7, .int tnv8, .ref tn_9, .ref tn_10, .int tnv11, .ref tn_12, .ref tn_13, .ref tn_14, .ref tn_15, .int tnv16, .ref tn_17, .ref tn_18, .ref tnt])), (tn_3, .inl (k 0, 10, .inl tng3)), (tn_4, .inl (k 0, 10, .inl tng4)), (tn_5, .inl (k 0, 10, .inl tng5)), (tn_9, .inl (k 0, 4, .inl tng9)), (tn_10, .inl (k 0, 4, .inl tng10))] sz) := by
  refine Met.ofW (cc := cX2_learnGate) (maxL := 3) (ret := none) (by decide +kernel) rfl ?_
  intro p e s m args below meth c s₁ B hml hv
  obtain ⟨rfl, hsz, hP, hK, hD0, hN⟩ := hv
  have hx := B.exec
  have hb := B.bytes
  have hr := B.returns
  have hts : ∀ w ∈ TT, w.before _ s = true := fun w h => atoms_spec (ws := ww yX2_learnGate cX2_learnGate 3 none) B.pre w (List.mem_cons_of_mem _ h)
  have hown : s.vm.findClass RX2 = some m.cls := findClass_of_methodNamed B.named
  have hlocks := B.notSynchronized
  subst hsz
  have hD := hD0.self (sz := s.heap.size)
  generalize hAe : va_A [(ob, .inr (2, [.int obv0, .ref obb, .ref ob_2, .ref ob_3, .ref ob_4, .ref ob_5])), (obb, .inr (1, [.ref obb_0, .int obbv1, .int obbv2])), (obb_0, .inl (k 0, 8, .inl obbg0)), (ob_2, .inl (k 0, 32, .inl obg2)), (ob_3, .inl (k 0, 32, .inl obg3)), (tn, .inr (10, [.int tnv0, .int tnv1, .int tnv2, .ref tn_3, .ref tn_4, .ref tn_5, .ref tn_6, .int tnv7, .int tnv8, .ref tn_9, .ref tn_10, .int tnv11, .ref tn_12, .ref tn_13, .ref tn_14, .ref tn_15, .int tnv16, .ref tn_17, .ref tn_18, .ref tnt])), (tn_3, .inl (k 0, 10, .inl tng3)), (tn_4, .inl (k 0, 10, .inl tng4)), (tn_5, .inl (k 0, 10, .inl tng5)), (tn_9, .inl (k 0, 4, .inl tng9)), (tn_10, .inl (k 0, 4, .inl tng10))] s.heap.size = A at hD ⊢
  have hA : ∀ q : Nat, s.heap.size ≤ q → A q := fun q h => by rw [← hAe]; exact Or.inr h
  have hS : va_S A s.heap s.heap [] := va_S.rf
  have hl := lv_entry ([.ref ob, .ref tn, .int p1]) (n := 3) (Nat.le_of_ble_eq_true rfl)
  rw [lg_entry_eq]
  generalize (lg_sl ([.ref ob, .ref tn, .int p1]) ++ List.replicate (3 - (lg_sl ([.ref ob, .ref tn, .int p1])).length) Slot.unset).toArray = ls at hl ⊢
  have hl : lv_has ls 3 [(0, .ref ob), (1, .ref tn), (2, .int p1)] := hl
  refine lv_aload_n hx hb dX2_learnGate_0 rfl (lv_at hl 0 rfl) ?_
  refine va_get (D := D) (ci := 2) (v := .ref obb) (C := RX2) (T := TX2) (N := 6) hx hb hts iT_X2 hown hK hP 0 rfl rfl 1 (by decide) (hts _ tw_2_98) (fun _ h9 => h9) rfl dX2_learnGate_1 ?_
  refine lv_aload_n hx hb dX2_learnGate_4 rfl (lv_at hl 1 rfl) ?_
  refine lv_iload_n hx hb dX2_learnGate_5 rfl (lv_at hl 2 rfl) ?_
  refine lv_ldc (v := 1000000) hx hb hown (hts _ tw_4_173) dX2_learnGate_6 ?_
  refine lv_aload_n hx hb dX2_learnGate_8 rfl (lv_at hl 1 rfl) ?_
  obtain ⟨hPc, hDc, hFc⟩ := sub3 hP hD hS hA (ws' := [(tn, .inr (10, [.int tnv0, .int tnv1, .int tnv2, .ref tn_3, .ref tn_4, .ref tn_5, .ref tn_6, .int tnv7, .int tnv8, .ref tn_9, .ref tn_10, .int tnv11, .ref tn_12, .ref tn_13, .ref tn_14, .ref tn_15, .int tnv16, .ref tn_17, .ref tn_18, .ref tnt]))]) [5] (by decide +kernel) rfl
  refine va_calli (va_runV (C := RX10) (As := []) (rest := [.int 1000000, .int p1, .ref tn, .ref obb]) ⟨hx, hb, hml, hown, hts⟩ (c_X10_openLanes l D k tn tnv0 tnv1 tnv2 tn_3 tn_4 tn_5 tn_6 tnv7 tnv8 tn_9 tn_10 tnv11 tn_12 tn_13 tn_14 tn_15 tnv16 tn_17 tn_18 tnt s.heap.size (show 0 ≤ tnv0.toInt ∧ tnv0.toInt ≤ 8 from by omega) (show 0 ≤ tnv2.toInt ∧ tnv2.toInt ≤ 10 from by omega) (show 0 ≤ tnv8.toInt ∧ tnv8.toInt ≤ 4 from by omega) (show 0 ≤ tnv11.toInt ∧ tnv11.toInt ≤ 6 from by omega) (show 0 ≤ tnv16.toInt ∧ tnv16.toInt ≤ 2 from by omega)) (cwV 0 hts (gV tw_4_174 tw_3_180 tw_3_181 tw_1_3 tw_3_182) rfl rfl rfl hdV_X10_openLanes ⟨Nat.le_of_ble_eq_true rfl, Nat.le_of_ble_eq_true rfl⟩) (cz_V hK hPc hDc hN (ci := 10) (q0 := 0) rfl rfl []) rfl rfl hl.1 rfl (lv_room (Nat.le_of_ble_eq_true rfl)) dX2_learnGate_9 ⟨Nat.le_of_ble_eq_true rfl, Nat.le_of_ble_eq_true rfl⟩) hS (fun q _ h => hFc q h) hFc (fun r_1 uZ tZ H1 locs ht hvm hw hB hz1 hk1 hS => ?_)
  obtain ⟨hP1, hK1, hD1⟩ := hB
  rw [ht] at hP1
  obtain ⟨hP, hD⟩ := va_join (wr := [(ob, .inr (2, [.int obv0, .ref obb, .ref ob_2, .ref ob_3, .ref ob_4, .ref ob_5])), (obb, .inr (1, [.ref obb_0, .int obbv1, .int obbv2])), (obb_0, .inl (k 0, 8, .inl obbg0)), (ob_2, .inl (k 0, 32, .inl obg2)), (ob_3, .inl (k 0, 32, .inl obg3)), (tn_3, .inl (k 0, 10, .inl tng3)), (tn_4, .inl (k 0, 10, .inl tng4)), (tn_5, .inl (k 0, 10, .inl tng5)), (tn_9, .inl (k 0, 4, .inl tng9)), (tn_10, .inl (k 0, 4, .inl tng10))]) (w1 := [(tn, .inr (10, [.int tnv0, .int tnv1, .int tnv2, .ref tn_3, .ref tn_4, .ref tn_5, .ref tn_6, .int tnv7, .int tnv8, .ref tn_9, .ref tn_10, .int tnv11, .ref tn_12, .ref tn_13, .ref tn_14, .ref tn_15, .int tnv16, .ref tn_17, .ref tn_18, .ref tnt]))]) hP hD [5] [0, 1, 2, 3, 4, 6, 7, 8, 9, 10] rfl rfl (by decide +kernel) (by decide +kernel) hk1 hFc hP1 hD1
  clear hK1 hP1 hD1 hPc hDc hFc
  clear hk1 hz1 ht hvm
  have hP : va_P D vwCl [(ob, .inr (2, [.int obv0, .ref obb, .ref ob_2, .ref ob_3, .ref ob_4, .ref ob_5])), (obb, .inr (1, [.ref obb_0, .int obbv1, .int obbv2])), (obb_0, .inl (k 0, 8, .inl obbg0)), (ob_2, .inl (k 0, 32, .inl obg2)), (ob_3, .inl (k 0, 32, .inl obg3)), (tn_3, .inl (k 0, 10, .inl tng3)), (tn_4, .inl (k 0, 10, .inl tng4)), (tn_5, .inl (k 0, 10, .inl tng5)), (tn_9, .inl (k 0, 4, .inl tng9)), (tn_10, .inl (k 0, 4, .inl tng10)), (tn, .inr (10, [.int tnv0, .int tnv1, .int tnv2, .ref tn_3, .ref tn_4, .ref tn_5, .ref tn_6, .int tnv7, .int tnv8, .ref tn_9, .ref tn_10, .int tnv11, .ref tn_12, .ref tn_13, .ref tn_14, .ref tn_15, .int tnv16, .ref tn_17, .ref tn_18, .ref tnt]))] H1 := hP
  have hD : va_D A [(ob, .inr (2, [.int obv0, .ref obb, .ref ob_2, .ref ob_3, .ref ob_4, .ref ob_5])), (obb, .inr (1, [.ref obb_0, .int obbv1, .int obbv2])), (obb_0, .inl (k 0, 8, .inl obbg0)), (ob_2, .inl (k 0, 32, .inl obg2)), (ob_3, .inl (k 0, 32, .inl obg3)), (tn_3, .inl (k 0, 10, .inl tng3)), (tn_4, .inl (k 0, 10, .inl tng4)), (tn_5, .inl (k 0, 10, .inl tng5)), (tn_9, .inl (k 0, 4, .inl tng9)), (tn_10, .inl (k 0, 4, .inl tng10)), (tn, .inr (10, [.int tnv0, .int tnv1, .int tnv2, .ref tn_3, .ref tn_4, .ref tn_5, .ref tn_6, .int tnv7, .int tnv8, .ref tn_9, .ref tn_10, .int tnv11, .ref tn_12, .ref tn_13, .ref tn_14, .ref tn_15, .int tnv16, .ref tn_17, .ref tn_18, .ref tnt]))] := hD
  generalize H1 = H at hP hS ⊢
  have hw_2 : (0 ≤ r_1.toInt ∧ r_1.toInt ≤ 1023) := hw
  have hw_3 := hw_2
  clear hw
  refine lv_iconst (v := 0) hx hb dX2_learnGate_12 (by decide) ?_
  obtain ⟨hPc, hDc, hFc⟩ := sub3 hP hD hS hA (ws' := [(obb, .inr (1, [.ref obb_0, .int obbv1, .int obbv2])), (obb_0, .inl (k 0, 8, .inl obbg0)), (tn, .inr (10, [.int tnv0, .int tnv1, .int tnv2, .ref tn_3, .ref tn_4, .ref tn_5, .ref tn_6, .int tnv7, .int tnv8, .ref tn_9, .ref tn_10, .int tnv11, .ref tn_12, .ref tn_13, .ref tn_14, .ref tn_15, .int tnv16, .ref tn_17, .ref tn_18, .ref tnt])), (tn_3, .inl (k 0, 10, .inl tng3)), (tn_4, .inl (k 0, 10, .inl tng4)), (tn_5, .inl (k 0, 10, .inl tng5)), (tn_9, .inl (k 0, 4, .inl tng9)), (tn_10, .inl (k 0, 4, .inl tng10))]) [1, 2, 10, 5, 6, 7, 8, 9] (by decide +kernel) rfl
  refine va_callv (va_runV (C := RX1) (As := [.ref tn, .int p1, .int 1000000, .int r_1, .int 0]) (rest := []) ⟨hx, hb, hml, hown, hts⟩ (c_X1_fallHeld l D k obb tn p1 1000000 r_1 0 obb_0 obbv1 obbv2 obbg0 tnv0 tnv1 tnv2 tn_3 tn_4 tn_5 tn_6 tnv7 tnv8 tn_9 tn_10 tnv11 tn_12 tn_13 tn_14 tn_15 tnv16 tn_17 tn_18 tnt tng3 tng4 tng5 tng9 tng10 H.size (show 0 ≤ 1000000 ∧ 1000000 ≤ 1000000 from by omega) hp_obbg0_0 (show 0 ≤ tnv0.toInt ∧ tnv0.toInt ≤ 8 from by omega) (show 0 ≤ tnv2.toInt ∧ tnv2.toInt ≤ 10 from by omega) (show 0 ≤ tnv8.toInt ∧ tnv8.toInt ≤ 4 from by omega) (show 0 ≤ tnv11.toInt ∧ tnv11.toInt ≤ 6 from by omega) (show 0 ≤ tnv16.toInt ∧ tnv16.toInt ≤ 2 from by omega) hp_tng3_0 hp_tng4_0 hp_tng5_0 hp_tng9_0 hp_tng10_0) (cwV 5 hts (gV tw_4_175 tw_3_188 tw_3_189 tw_1_6 tw_3_190) rfl rfl rfl hdV_X1_fallHeld ⟨Nat.le_of_ble_eq_true rfl, Nat.le_of_ble_eq_true rfl⟩) (cz_V hK hPc hDc hN (ci := 1) (q0 := 0) rfl rfl [.ref tn, .int p1, .int 1000000, .int r_1, .int 0]) rfl rfl hl.1 rfl (lv_room (Nat.le_of_ble_eq_true rfl)) dX2_learnGate_13 ⟨Nat.le_of_ble_eq_true rfl, Nat.le_of_ble_eq_true rfl⟩) hS (fun q _ h => hFc q h) hFc (fun uZ tZ H1 locs ht hvm hw hB hz1 hk1 hS => ?_)
  obtain ⟨o_5, o_6, o_7⟩ := uZ
  obtain ⟨hP1, hK1, hD1⟩ := hB
  rw [ht] at hP1
  obtain ⟨hP, hD⟩ := va_join (wr := [(ob, .inr (2, [.int obv0, .ref obb, .ref ob_2, .ref ob_3, .ref ob_4, .ref ob_5])), (ob_2, .inl (k 0, 32, .inl obg2)), (ob_3, .inl (k 0, 32, .inl obg3))]) (w1 := [(obb, .inr (1, [.ref obb_0, .int o_5, .int o_6])), (obb_0, .inl (k 0, 8, .inl o_7)), (tn, .inr (10, [.int tnv0, .int tnv1, .int tnv2, .ref tn_3, .ref tn_4, .ref tn_5, .ref tn_6, .int tnv7, .int tnv8, .ref tn_9, .ref tn_10, .int tnv11, .ref tn_12, .ref tn_13, .ref tn_14, .ref tn_15, .int tnv16, .ref tn_17, .ref tn_18, .ref tnt])), (tn_3, .inl (k 0, 10, .inl tng3)), (tn_4, .inl (k 0, 10, .inl tng4)), (tn_5, .inl (k 0, 10, .inl tng5)), (tn_9, .inl (k 0, 4, .inl tng9)), (tn_10, .inl (k 0, 4, .inl tng10))]) hP hD [1, 2, 10, 5, 6, 7, 8, 9] [0, 3, 4] rfl rfl (by decide +kernel) (by decide +kernel) hk1 hFc hP1 hD1
  clear hK1 hP1 hD1 hPc hDc hFc
  clear hk1 hz1 ht hvm
  have hP : va_P D vwCl [(ob, .inr (2, [.int obv0, .ref obb, .ref ob_2, .ref ob_3, .ref ob_4, .ref ob_5])), (ob_2, .inl (k 0, 32, .inl obg2)), (ob_3, .inl (k 0, 32, .inl obg3)), (obb, .inr (1, [.ref obb_0, .int o_5, .int o_6])), (obb_0, .inl (k 0, 8, .inl o_7)), (tn, .inr (10, [.int tnv0, .int tnv1, .int tnv2, .ref tn_3, .ref tn_4, .ref tn_5, .ref tn_6, .int tnv7, .int tnv8, .ref tn_9, .ref tn_10, .int tnv11, .ref tn_12, .ref tn_13, .ref tn_14, .ref tn_15, .int tnv16, .ref tn_17, .ref tn_18, .ref tnt])), (tn_3, .inl (k 0, 10, .inl tng3)), (tn_4, .inl (k 0, 10, .inl tng4)), (tn_5, .inl (k 0, 10, .inl tng5)), (tn_9, .inl (k 0, 4, .inl tng9)), (tn_10, .inl (k 0, 4, .inl tng10))] H1 := hP
  have hD : va_D A [(ob, .inr (2, [.int obv0, .ref obb, .ref ob_2, .ref ob_3, .ref ob_4, .ref ob_5])), (ob_2, .inl (k 0, 32, .inl obg2)), (ob_3, .inl (k 0, 32, .inl obg3)), (obb, .inr (1, [.ref obb_0, .int o_5, .int o_6])), (obb_0, .inl (k 0, 8, .inl o_7)), (tn, .inr (10, [.int tnv0, .int tnv1, .int tnv2, .ref tn_3, .ref tn_4, .ref tn_5, .ref tn_6, .int tnv7, .int tnv8, .ref tn_9, .ref tn_10, .int tnv11, .ref tn_12, .ref tn_13, .ref tn_14, .ref tn_15, .int tnv16, .ref tn_17, .ref tn_18, .ref tnt])), (tn_3, .inl (k 0, 10, .inl tng3)), (tn_4, .inl (k 0, 10, .inl tng4)), (tn_5, .inl (k 0, 10, .inl tng5)), (tn_9, .inl (k 0, 4, .inl tng9)), (tn_10, .inl (k 0, 4, .inl tng10))] := hD
  generalize H1 = H at hP hS ⊢
  have hw_8 : (PR 8 1 0 0 1000000 o_7) := hw
  have hw_9 := hw_8
  clear hw
  refine lv_aload_n hx hb dX2_learnGate_16 rfl (lv_at hl 0 rfl) ?_
  refine va_get (D := D) (ci := 2) (v := .ref obb) (C := RX2) (T := TX2) (N := 6) hx hb hts iT_X2 hown hK hP 0 rfl rfl 1 (by decide) (hts _ tw_2_98) (fun _ h9 => h9) rfl dX2_learnGate_17 ?_
  refine va_get (D := D) (ci := 1) (v := .ref obb_0) (C := RX1) (T := TX1) (N := 3) hx hb hts iT_X1 hown hK hP 3 rfl rfl 0 (by decide) (hts _ tw_2_18) (fun _ h9 => h9) rfl dX2_learnGate_20 ?_
  refine lv_iconst (v := 0) hx hb dX2_learnGate_23 (by decide) ?_
  refine lv_aload_n hx hb dX2_learnGate_24 rfl (lv_at hl 0 rfl) ?_
  refine va_get (D := D) (ci := 2) (v := .ref ob_2) (C := RX2) (T := TX2) (N := 6) hx hb hts iT_X2 hown hK hP 0 rfl rfl 2 (by decide) (hts _ tw_2_99) (fun _ h9 => h9) rfl dX2_learnGate_25 ?_
  refine lv_iload_n hx hb dX2_learnGate_28 rfl (lv_at hl 2 rfl) ?_
  refine lv_bipush (v := 8) hx hb dX2_learnGate_29 (by decide) ?_
  refine lv_imul hx hb dX2_learnGate_31 ?_
  refine lv_topi (fun x_10 ex_10 => ?_)
  have zx_10 : x_10.toInt = p1.toInt * 8 := by rw [ex_10]; exact z_mul rfl rfl (by omega) (by omega)
  refine lv_bipush (v := 8) hx hb dX2_learnGate_32 (by decide) ?_
  refine va_copyi (ty := .int) hx hb (by rw [hml]; exact hl.1.symm) hown (hts _ tw_4_176) (hts _ tw_4_178) (hts _ tw_4_177) (hts _ tw_1_21) hK hP hD hS 4 1 0 0 rfl rfl rfl rfl rfl (sp := 0) (dp := x_10) (n := 8) (by decide) (z_nneg (by omega)) (by decide) (by decide) (z_sumle (a := x_10) (n := 8) (show (0 : Int) ≤ x_10.toInt from by omega) (show (0 : Int) ≤ 8 from by omega) (show x_10.toInt + 8 ≤ 32 from by omega)) (fun _ _ => rfl) (Nat.le_of_ble_eq_true rfl) (Nat.le_of_ble_eq_true rfl) dX2_learnGate_34 (fun H locs hP hD hS => ?_)
  have hP : va_P D vwCl [(ob, .inr (2, [.int obv0, .ref obb, .ref ob_2, .ref ob_3, .ref ob_4, .ref ob_5])), (ob_2, .inl (k 0, 32, .inl (va_cpy o_7 obg2 0 x_10.toNatClampNeg 8))), (ob_3, .inl (k 0, 32, .inl obg3)), (obb, .inr (1, [.ref obb_0, .int o_5, .int o_6])), (obb_0, .inl (k 0, 8, .inl o_7)), (tn, .inr (10, [.int tnv0, .int tnv1, .int tnv2, .ref tn_3, .ref tn_4, .ref tn_5, .ref tn_6, .int tnv7, .int tnv8, .ref tn_9, .ref tn_10, .int tnv11, .ref tn_12, .ref tn_13, .ref tn_14, .ref tn_15, .int tnv16, .ref tn_17, .ref tn_18, .ref tnt])), (tn_3, .inl (k 0, 10, .inl tng3)), (tn_4, .inl (k 0, 10, .inl tng4)), (tn_5, .inl (k 0, 10, .inl tng5)), (tn_9, .inl (k 0, 4, .inl tng9)), (tn_10, .inl (k 0, 4, .inl tng10))] H := hP
  have hD : va_D A [(ob, .inr (2, [.int obv0, .ref obb, .ref ob_2, .ref ob_3, .ref ob_4, .ref ob_5])), (ob_2, .inl (k 0, 32, .inl (va_cpy o_7 obg2 0 x_10.toNatClampNeg 8))), (ob_3, .inl (k 0, 32, .inl obg3)), (obb, .inr (1, [.ref obb_0, .int o_5, .int o_6])), (obb_0, .inl (k 0, 8, .inl o_7)), (tn, .inr (10, [.int tnv0, .int tnv1, .int tnv2, .ref tn_3, .ref tn_4, .ref tn_5, .ref tn_6, .int tnv7, .int tnv8, .ref tn_9, .ref tn_10, .int tnv11, .ref tn_12, .ref tn_13, .ref tn_14, .ref tn_15, .int tnv16, .ref tn_17, .ref tn_18, .ref tnt])), (tn_3, .inl (k 0, 10, .inl tng3)), (tn_4, .inl (k 0, 10, .inl tng4)), (tn_5, .inl (k 0, 10, .inl tng5)), (tn_9, .inl (k 0, 4, .inl tng9)), (tn_10, .inl (k 0, 4, .inl tng10))] := hD
  obtain ⟨g_11, eg_11⟩ : ∃ z : Nat → Int32, va_cpy o_7 obg2 0 x_10.toNatClampNeg 8 = z := ⟨_, rfl⟩
  rw [eg_11] at hP hD
  have hp_12 : PR 32 1 0 0 1000000 g_11 := by rw [← eg_11]; exact PR.cpy hw_9 hp_obg2_0 (by decide)
  refine lv_aload_n hx hb dX2_learnGate_37 rfl (lv_at hl 0 rfl) ?_
  refine va_get (D := D) (ci := 2) (v := .ref obb) (C := RX2) (T := TX2) (N := 6) hx hb hts iT_X2 hown hK hP 0 rfl rfl 1 (by decide) (hts _ tw_2_98) (fun _ h9 => h9) rfl dX2_learnGate_38 ?_
  refine lv_aload_n hx hb dX2_learnGate_41 rfl (lv_at hl 1 rfl) ?_
  refine lv_aload_n hx hb dX2_learnGate_42 rfl (lv_at hl 1 rfl) ?_
  refine va_get (D := D) (ci := 10) (v := .ref tn_9) (C := RX10) (T := TX10) (N := 20) hx hb hts iT_X10 hown hK hP 5 rfl rfl 9 (by decide) (hts _ tw_1_110) (fun _ h9 => h9) rfl dX2_learnGate_43 ?_
  refine lv_iload_n hx hb dX2_learnGate_46 rfl (lv_at hl 2 rfl) ?_
  refine va_iald hx hb hK hP 9 0 rfl rfl (z_in (by omega) (by omega)) dX2_learnGate_47 ?_
  refine lv_topi (fun x_13 ex_13 => ?_)
  have zx_13r0 : 0 ≤ x_13.toInt ∧ x_13.toInt ≤ 7 := by rw [ex_13]; exact PR.ld hp_tng9_0 (by omega) (by omega) (by omega)
  refine lv_iconst (v := 0) hx hb dX2_learnGate_48 (by decide) ?_
  obtain ⟨hPc, hDc, hFc⟩ := sub3 hP hD hS hA (ws' := [(obb, .inr (1, [.ref obb_0, .int o_5, .int o_6])), (obb_0, .inl (k 0, 8, .inl o_7)), (tn, .inr (10, [.int tnv0, .int tnv1, .int tnv2, .ref tn_3, .ref tn_4, .ref tn_5, .ref tn_6, .int tnv7, .int tnv8, .ref tn_9, .ref tn_10, .int tnv11, .ref tn_12, .ref tn_13, .ref tn_14, .ref tn_15, .int tnv16, .ref tn_17, .ref tn_18, .ref tnt])), (tn_3, .inl (k 0, 10, .inl tng3)), (tn_4, .inl (k 0, 10, .inl tng4)), (tn_5, .inl (k 0, 10, .inl tng5))]) [3, 4, 5, 6, 7, 8] (by decide +kernel) rfl
  refine va_callv (va_runV (C := RX1) (As := [.ref tn, .int x_13, .int 0]) (rest := []) ⟨hx, hb, hml, hown, hts⟩ (c_X1_fallFrom l D k obb tn x_13 0 obb_0 o_5 o_6 o_7 tnv0 tnv1 tnv2 tn_3 tn_4 tn_5 tn_6 tnv7 tnv8 tn_9 tn_10 tnv11 tn_12 tn_13 tn_14 tn_15 tnv16 tn_17 tn_18 tnt tng3 tng4 tng5 H.size (show 0 ≤ 0 ∧ 0 ≤ 999 from by omega) hw_9 (show 0 ≤ tnv0.toInt ∧ tnv0.toInt ≤ 8 from by omega) (show 0 ≤ tnv2.toInt ∧ tnv2.toInt ≤ 10 from by omega) (show 0 ≤ tnv8.toInt ∧ tnv8.toInt ≤ 4 from by omega) (show 0 ≤ tnv11.toInt ∧ tnv11.toInt ≤ 6 from by omega) (show 0 ≤ tnv16.toInt ∧ tnv16.toInt ≤ 2 from by omega) hp_tng3_0 hp_tng4_0 hp_tng5_0) (cwV 3 hts (gV tw_4_179 tw_3_216 tw_3_217 tw_1_6 tw_3_218) rfl rfl rfl hdV_X1_fallFrom ⟨Nat.le_of_ble_eq_true rfl, Nat.le_of_ble_eq_true rfl⟩) (cz_V hK hPc hDc hN (ci := 1) (q0 := 0) rfl rfl [.ref tn, .int x_13, .int 0]) rfl rfl hl.1 rfl (lv_room (Nat.le_of_ble_eq_true rfl)) dX2_learnGate_49 ⟨Nat.le_of_ble_eq_true rfl, Nat.le_of_ble_eq_true rfl⟩) hS (fun q _ h => hFc q h) hFc (fun uZ tZ H1 locs ht hvm hw hB hz1 hk1 hS => ?_)
  obtain ⟨o_15, o_16, o_17⟩ := uZ
  obtain ⟨hP1, hK1, hD1⟩ := hB
  rw [ht] at hP1
  obtain ⟨hP, hD⟩ := va_join (wr := [(ob, .inr (2, [.int obv0, .ref obb, .ref ob_2, .ref ob_3, .ref ob_4, .ref ob_5])), (ob_2, .inl (k 0, 32, .inl g_11)), (ob_3, .inl (k 0, 32, .inl obg3)), (tn_9, .inl (k 0, 4, .inl tng9)), (tn_10, .inl (k 0, 4, .inl tng10))]) (w1 := [(obb, .inr (1, [.ref obb_0, .int o_15, .int o_16])), (obb_0, .inl (k 0, 8, .inl o_17)), (tn, .inr (10, [.int tnv0, .int tnv1, .int tnv2, .ref tn_3, .ref tn_4, .ref tn_5, .ref tn_6, .int tnv7, .int tnv8, .ref tn_9, .ref tn_10, .int tnv11, .ref tn_12, .ref tn_13, .ref tn_14, .ref tn_15, .int tnv16, .ref tn_17, .ref tn_18, .ref tnt])), (tn_3, .inl (k 0, 10, .inl tng3)), (tn_4, .inl (k 0, 10, .inl tng4)), (tn_5, .inl (k 0, 10, .inl tng5))]) hP hD [3, 4, 5, 6, 7, 8] [0, 1, 2, 9, 10] rfl rfl (by decide +kernel) (by decide +kernel) hk1 hFc hP1 hD1
  clear hK1 hP1 hD1 hPc hDc hFc
  clear hk1 hz1 ht hvm
  have hP : va_P D vwCl [(ob, .inr (2, [.int obv0, .ref obb, .ref ob_2, .ref ob_3, .ref ob_4, .ref ob_5])), (ob_2, .inl (k 0, 32, .inl g_11)), (ob_3, .inl (k 0, 32, .inl obg3)), (tn_9, .inl (k 0, 4, .inl tng9)), (tn_10, .inl (k 0, 4, .inl tng10)), (obb, .inr (1, [.ref obb_0, .int o_15, .int o_16])), (obb_0, .inl (k 0, 8, .inl o_17)), (tn, .inr (10, [.int tnv0, .int tnv1, .int tnv2, .ref tn_3, .ref tn_4, .ref tn_5, .ref tn_6, .int tnv7, .int tnv8, .ref tn_9, .ref tn_10, .int tnv11, .ref tn_12, .ref tn_13, .ref tn_14, .ref tn_15, .int tnv16, .ref tn_17, .ref tn_18, .ref tnt])), (tn_3, .inl (k 0, 10, .inl tng3)), (tn_4, .inl (k 0, 10, .inl tng4)), (tn_5, .inl (k 0, 10, .inl tng5))] H1 := hP
  have hD : va_D A [(ob, .inr (2, [.int obv0, .ref obb, .ref ob_2, .ref ob_3, .ref ob_4, .ref ob_5])), (ob_2, .inl (k 0, 32, .inl g_11)), (ob_3, .inl (k 0, 32, .inl obg3)), (tn_9, .inl (k 0, 4, .inl tng9)), (tn_10, .inl (k 0, 4, .inl tng10)), (obb, .inr (1, [.ref obb_0, .int o_15, .int o_16])), (obb_0, .inl (k 0, 8, .inl o_17)), (tn, .inr (10, [.int tnv0, .int tnv1, .int tnv2, .ref tn_3, .ref tn_4, .ref tn_5, .ref tn_6, .int tnv7, .int tnv8, .ref tn_9, .ref tn_10, .int tnv11, .ref tn_12, .ref tn_13, .ref tn_14, .ref tn_15, .int tnv16, .ref tn_17, .ref tn_18, .ref tnt])), (tn_3, .inl (k 0, 10, .inl tng3)), (tn_4, .inl (k 0, 10, .inl tng4)), (tn_5, .inl (k 0, 10, .inl tng5))] := hD
  generalize H1 = H at hP hS ⊢
  have hw_18 : (PR 8 1 0 0 1000000 o_17) := hw
  have hw_19 := hw_18
  clear hw
  refine lv_aload_n hx hb dX2_learnGate_52 rfl (lv_at hl 0 rfl) ?_
  refine va_get (D := D) (ci := 2) (v := .ref obb) (C := RX2) (T := TX2) (N := 6) hx hb hts iT_X2 hown hK hP 0 rfl rfl 1 (by decide) (hts _ tw_2_98) (fun _ h9 => h9) rfl dX2_learnGate_53 ?_
  refine va_get (D := D) (ci := 1) (v := .ref obb_0) (C := RX1) (T := TX1) (N := 3) hx hb hts iT_X1 hown hK hP 5 rfl rfl 0 (by decide) (hts _ tw_2_18) (fun _ h9 => h9) rfl dX2_learnGate_56 ?_
  refine lv_iconst (v := 0) hx hb dX2_learnGate_59 (by decide) ?_
  refine lv_aload_n hx hb dX2_learnGate_60 rfl (lv_at hl 0 rfl) ?_
  refine va_get (D := D) (ci := 2) (v := .ref ob_3) (C := RX2) (T := TX2) (N := 6) hx hb hts iT_X2 hown hK hP 0 rfl rfl 3 (by decide) (hts _ tw_2_100) (fun _ h9 => h9) rfl dX2_learnGate_61 ?_
  refine lv_iload_n hx hb dX2_learnGate_64 rfl (lv_at hl 2 rfl) ?_
  refine lv_bipush (v := 8) hx hb dX2_learnGate_65 (by decide) ?_
  refine lv_imul hx hb dX2_learnGate_67 ?_
  refine lv_topi (fun x_20 ex_20 => ?_)
  obtain rfl : x_10 = x_20 := ex_10.trans ex_20.symm
  refine lv_bipush (v := 8) hx hb dX2_learnGate_68 (by decide) ?_
  refine va_copyi (ty := .int) hx hb (by rw [hml]; exact hl.1.symm) hown (hts _ tw_4_176) (hts _ tw_4_178) (hts _ tw_4_177) (hts _ tw_1_21) hK hP hD hS 6 2 0 0 rfl rfl rfl rfl rfl (sp := 0) (dp := x_10) (n := 8) (by decide) (z_nneg (by omega)) (by decide) (by decide) (z_sumle (a := x_10) (n := 8) (show (0 : Int) ≤ x_10.toInt from by omega) (show (0 : Int) ≤ 8 from by omega) (show x_10.toInt + 8 ≤ 32 from by omega)) (fun _ _ => rfl) (Nat.le_of_ble_eq_true rfl) (Nat.le_of_ble_eq_true rfl) dX2_learnGate_70 (fun H locs hP hD hS => ?_)
  have hP : va_P D vwCl [(ob, .inr (2, [.int obv0, .ref obb, .ref ob_2, .ref ob_3, .ref ob_4, .ref ob_5])), (ob_2, .inl (k 0, 32, .inl g_11)), (ob_3, .inl (k 0, 32, .inl (va_cpy o_17 obg3 0 x_10.toNatClampNeg 8))), (tn_9, .inl (k 0, 4, .inl tng9)), (tn_10, .inl (k 0, 4, .inl tng10)), (obb, .inr (1, [.ref obb_0, .int o_15, .int o_16])), (obb_0, .inl (k 0, 8, .inl o_17)), (tn, .inr (10, [.int tnv0, .int tnv1, .int tnv2, .ref tn_3, .ref tn_4, .ref tn_5, .ref tn_6, .int tnv7, .int tnv8, .ref tn_9, .ref tn_10, .int tnv11, .ref tn_12, .ref tn_13, .ref tn_14, .ref tn_15, .int tnv16, .ref tn_17, .ref tn_18, .ref tnt])), (tn_3, .inl (k 0, 10, .inl tng3)), (tn_4, .inl (k 0, 10, .inl tng4)), (tn_5, .inl (k 0, 10, .inl tng5))] H := hP
  have hD : va_D A [(ob, .inr (2, [.int obv0, .ref obb, .ref ob_2, .ref ob_3, .ref ob_4, .ref ob_5])), (ob_2, .inl (k 0, 32, .inl g_11)), (ob_3, .inl (k 0, 32, .inl (va_cpy o_17 obg3 0 x_10.toNatClampNeg 8))), (tn_9, .inl (k 0, 4, .inl tng9)), (tn_10, .inl (k 0, 4, .inl tng10)), (obb, .inr (1, [.ref obb_0, .int o_15, .int o_16])), (obb_0, .inl (k 0, 8, .inl o_17)), (tn, .inr (10, [.int tnv0, .int tnv1, .int tnv2, .ref tn_3, .ref tn_4, .ref tn_5, .ref tn_6, .int tnv7, .int tnv8, .ref tn_9, .ref tn_10, .int tnv11, .ref tn_12, .ref tn_13, .ref tn_14, .ref tn_15, .int tnv16, .ref tn_17, .ref tn_18, .ref tnt])), (tn_3, .inl (k 0, 10, .inl tng3)), (tn_4, .inl (k 0, 10, .inl tng4)), (tn_5, .inl (k 0, 10, .inl tng5))] := hD
  obtain ⟨g_21, eg_21⟩ : ∃ z : Nat → Int32, va_cpy o_17 obg3 0 x_10.toNatClampNeg 8 = z := ⟨_, rfl⟩
  rw [eg_21] at hP hD
  have hp_22 : PR 32 1 0 0 1000000 g_21 := by rw [← eg_21]; exact PR.cpy hw_19 hp_obg3_0 (by decide)
  obtain ⟨hP9, hD9⟩ := sub2 hP hD (ws' := [(ob, .inr (2, [.int obv0, .ref obb, .ref ob_2, .ref ob_3, .ref ob_4, .ref ob_5])), (obb, .inr (1, [.ref obb_0, .int o_15, .int o_16])), (obb_0, .inl (k 0, 8, .inl o_17)), (ob_2, .inl (k 0, 32, .inl g_11)), (ob_3, .inl (k 0, 32, .inl g_21)), (tn, .inr (10, [.int tnv0, .int tnv1, .int tnv2, .ref tn_3, .ref tn_4, .ref tn_5, .ref tn_6, .int tnv7, .int tnv8, .ref tn_9, .ref tn_10, .int tnv11, .ref tn_12, .ref tn_13, .ref tn_14, .ref tn_15, .int tnv16, .ref tn_17, .ref tn_18, .ref tnt])), (tn_3, .inl (k 0, 10, .inl tng3)), (tn_4, .inl (k 0, 10, .inl tng4)), (tn_5, .inl (k 0, 10, .inl tng5)), (tn_9, .inl (k 0, 4, .inl tng9)), (tn_10, .inl (k 0, 4, .inl tng10))]) [0, 5, 6, 1, 2, 7, 8, 9, 10, 3, 4] (by decide +kernel) rfl
  exact W.vret hx hb hr (fun tZ ht hW => ⟨⟨(o_15, o_16, o_17, g_11, g_21), rfl, ⟨hw_19, hp_12, hp_22⟩, by rw [ht]; exact hP9, va_K.moved hW.alike hK, hD9⟩, hS.F ht⟩) hS.2.2 dX2_learnGate_73
set_option maxHeartbeats 4000000 in
set_option maxRecDepth 100000 in
theorem c_J9_min_7cf53 (l : Launch) (D : va_G) (k : Nat → ClassId) (p0 : Int32) (p1 : Int32) (sz : Nat) : Met l yJ9_min_7cf53 (ww yJ9_min_7cf53 cJ9_min_7cf53 2 (some .int)) ({ frames := 0, cells := 0, slots := 0, locals := 0 }) (Pre0 D k [] sz [.int p0, .int p1]) (va_Qi (fun (r : Int32) (_ : Unit) => (r.toInt ≤ p0.toInt ∧ r.toInt ≤ p1.toInt ∧ (r.toInt = p0.toInt ∨ r.toInt = p1.toInt))) (fun (_ : Unit) tZ => Bw D k (va_A [] sz) [] tZ) (va_A [] sz)) 0 0 (va_A [] sz) := by
  refine va_MetF (cc := cJ9_min_7cf53) (maxL := 2) (ret := (some .int)) (by decide +kernel) rfl ?_
  intro p e s m args below meth c s₁ B hml hv
  obtain ⟨rfl, hsz, hP, hK, hD0, hN⟩ := hv
  have hx := B.exec
  have hb := B.bytes
  have hr := B.returns
  have hts : ∀ w ∈ TT, w.before _ s = true := fun w h => atoms_spec (ws := ww yJ9_min_7cf53 cJ9_min_7cf53 2 (some .int)) B.pre w (List.mem_cons_of_mem _ h)
  have hown : s.vm.findClass RJ9 = some m.cls := findClass_of_methodNamed B.named
  have hlocks := B.notSynchronized
  subst hsz
  have hD := hD0.self (sz := s.heap.size)
  generalize hAe : va_A [] s.heap.size = A at hD ⊢
  have hA : ∀ q : Nat, s.heap.size ≤ q → A q := fun q h => by rw [← hAe]; exact Or.inr h
  have hS : va_S A s.heap s.heap [] := va_S.rf
  have hl := lv_entry ([.int p0, .int p1]) (n := 2) (Nat.le_of_ble_eq_true rfl)
  rw [lg_entry_eq]
  generalize (lg_sl ([.int p0, .int p1]) ++ List.replicate (2 - (lg_sl ([.int p0, .int p1])).length) Slot.unset).toArray = ls at hl ⊢
  have hl : lv_has ls 2 [(0, .int p0), (1, .int p1)] := hl
  refine lv_iload_n hx hb dJ9_min_7cf53_0 rfl (lv_at hl 0 rfl) ?_
  refine lv_iload_n hx hb dJ9_min_7cf53_1 rfl (lv_at hl 1 rfl) ?_
  refine lv_icmp_gt (tgt := 9) hx hb dJ9_min_7cf53_2 (by decide) (fun h_1 => ?_) (fun h_1 => ?_)
  · skip
    have zh_1 : p1.toInt < p0.toInt := z_lt h_1
    refine lv_iload_n hx hb dJ9_min_7cf53_9 rfl (lv_at hl 1 rfl) ?_
    obtain ⟨hP9, hD9⟩ := sub2 hP hD (ws' := []) [] (by decide +kernel) rfl
    exact W.iret (v := p1) hx hb hr (fun tZ ht hW => ⟨⟨p1, (), rfl, (show p1.toInt ≤ p0.toInt ∧ p1.toInt ≤ p1.toInt ∧ (p1.toInt = p0.toInt ∨ p1.toInt = p1.toInt) from by omega), by rw [ht]; exact hP9, va_K.moved hW.alike hK, hD9⟩, hS.F ht⟩) hS.2.2 dJ9_min_7cf53_10
  · skip
    have zh_1 : p0.toInt ≤ p1.toInt := z_nlt h_1
    refine lv_iload_n hx hb dJ9_min_7cf53_5 rfl (lv_at hl 0 rfl) ?_
    refine lv_goto (tgt := 10) hx hb dJ9_min_7cf53_6 (by decide) ?_
    obtain ⟨hP9, hD9⟩ := sub2 hP hD (ws' := []) [] (by decide +kernel) rfl
    exact W.iret (v := p0) hx hb hr (fun tZ ht hW => ⟨⟨p0, (), rfl, (show p0.toInt ≤ p0.toInt ∧ p0.toInt ≤ p1.toInt ∧ (p0.toInt = p0.toInt ∨ p0.toInt = p1.toInt) from by omega), by rw [ht]; exact hP9, va_K.moved hW.alike hK, hD9⟩, hS.F ht⟩) hS.2.2 dJ9_min_7cf53_10
set_option maxHeartbeats 4000000 in
set_option maxRecDepth 100000 in
theorem c_X2_minuteWith (l : Launch) (D : va_G) (k : Nat → ClassId) (ob : Nat) (p0 : Int32) (p1 : Int32) (p2 : Int32) (obv0 : Int32) (obb : Nat) (ob_2 : Nat) (ob_3 : Nat) (ob_4 : Nat) (ob_5 : Nat) (obg2 : Nat → Int32) (obg3 : Nat → Int32) (sz : Nat) (h_p0 : 0 ≤ p0.toInt ∧ p0.toInt ≤ 3) (h_p1 : 0 ≤ p1.toInt ∧ p1.toInt ≤ 99) (h_p2 : 0 ≤ p2.toInt ∧ p2.toInt ≤ 7) (hp_obg2_0 : PR 32 1 0 0 1000000 obg2) (hp_obg3_0 : PR 32 1 0 0 1000000 obg3) : Met l yX2_minuteWith (ww yX2_minuteWith cX2_minuteWith 5 (some .int)) ({ frames := 1, cells := 0, slots := 0, locals := 21 }) (Pre0 D k [(ob, .inr (2, [.int obv0, .ref obb, .ref ob_2, .ref ob_3, .ref ob_4, .ref ob_5])), (ob_2, .inl (k 0, 32, .inl obg2)), (ob_3, .inl (k 0, 32, .inl obg3))] sz [.ref ob, .int p0, .int p1, .int p2]) (va_Qi (fun (r : Int32) (_ : Unit) => (0 ≤ r.toInt ∧ r.toInt ≤ 1000000)) (fun (_ : Unit) tZ => Bw D k (va_A [(ob, .inr (2, [.int obv0, .ref obb, .ref ob_2, .ref ob_3, .ref ob_4, .ref ob_5])), (ob_2, .inl (k 0, 32, .inl obg2)), (ob_3, .inl (k 0, 32, .inl obg3))] sz) [(ob, .inr (2, [.int obv0, .ref obb, .ref ob_2, .ref ob_3, .ref ob_4, .ref ob_5])), (ob_2, .inl (k 0, 32, .inl obg2)), (ob_3, .inl (k 0, 32, .inl obg3))] tZ) (va_A [(ob, .inr (2, [.int obv0, .ref obb, .ref ob_2, .ref ob_3, .ref ob_4, .ref ob_5])), (ob_2, .inl (k 0, 32, .inl obg2)), (ob_3, .inl (k 0, 32, .inl obg3))] sz)) 0 0 (va_A [(ob, .inr (2, [.int obv0, .ref obb, .ref ob_2, .ref ob_3, .ref ob_4, .ref ob_5])), (ob_2, .inl (k 0, 32, .inl obg2)), (ob_3, .inl (k 0, 32, .inl obg3))] sz) := by
  refine Met.ofW (cc := cX2_minuteWith) (maxL := 5) (ret := (some .int)) (by decide +kernel) rfl ?_
  intro p e s m args below meth c s₁ B hml hv
  obtain ⟨rfl, hsz, hP, hK, hD0, hN⟩ := hv
  have hx := B.exec
  have hb := B.bytes
  have hr := B.returns
  have hts : ∀ w ∈ TT, w.before _ s = true := fun w h => atoms_spec (ws := ww yX2_minuteWith cX2_minuteWith 5 (some .int)) B.pre w (List.mem_cons_of_mem _ h)
  have hown : s.vm.findClass RX2 = some m.cls := findClass_of_methodNamed B.named
  have hlocks := B.notSynchronized
  subst hsz
  have hD := hD0.self (sz := s.heap.size)
  generalize hAe : va_A [(ob, .inr (2, [.int obv0, .ref obb, .ref ob_2, .ref ob_3, .ref ob_4, .ref ob_5])), (ob_2, .inl (k 0, 32, .inl obg2)), (ob_3, .inl (k 0, 32, .inl obg3))] s.heap.size = A at hD ⊢
  have hA : ∀ q : Nat, s.heap.size ≤ q → A q := fun q h => by rw [← hAe]; exact Or.inr h
  have hS : va_S A s.heap s.heap [] := va_S.rf
  have hl := lv_entry ([.ref ob, .int p0, .int p1, .int p2]) (n := 5) (Nat.le_of_ble_eq_true rfl)
  rw [lg_entry_eq]
  generalize (lg_sl ([.ref ob, .int p0, .int p1, .int p2]) ++ List.replicate (5 - (lg_sl ([.ref ob, .int p0, .int p1, .int p2])).length) Slot.unset).toArray = ls at hl ⊢
  have hl : lv_has ls 5 [(0, .ref ob), (1, .int p0), (2, .int p1), (3, .int p2)] := hl
  refine lv_iload_n hx hb dX2_minuteWith_0 rfl (lv_at hl 1 rfl) ?_
  refine lv_bipush (v := 8) hx hb dX2_minuteWith_1 (by decide) ?_
  refine lv_imul hx hb dX2_minuteWith_3 ?_
  refine lv_topi (fun x_1 ex_1 => ?_)
  have zx_1 : x_1.toInt = p0.toInt * 8 := by rw [ex_1]; exact z_mul rfl rfl (by omega) (by omega)
  refine lv_iload_n hx hb dX2_minuteWith_4 rfl (lv_at hl 3 rfl) ?_
  refine lv_iadd hx hb dX2_minuteWith_5 ?_
  refine lv_topi (fun x_2 ex_2 => ?_)
  have zx_2 : x_2.toInt = x_1.toInt + p2.toInt := by rw [ex_2]; exact z_add rfl rfl (by omega) (by omega)
  refine lv_istore (lv' := [(4, .int x_2), (0, .ref ob), (1, .int p0), (2, .int p1), (3, .int p2)]) hx hb dX2_minuteWith_6 hl (by decide) rfl (fun ls hl => ?_)
  refine lv_aload_n hx hb dX2_minuteWith_8 rfl (lv_at hl 1 rfl) ?_
  refine va_get (D := D) (ci := 2) (v := .ref ob_2) (C := RX2) (T := TX2) (N := 6) hx hb hts iT_X2 hown hK hP 0 rfl rfl 2 (by decide) (hts _ tw_2_99) (fun _ h9 => h9) rfl dX2_minuteWith_9 ?_
  refine lv_iload hx hb dX2_minuteWith_12 (lv_at hl 0 rfl) ?_
  refine va_iald hx hb hK hP 1 0 rfl rfl (z_in (by omega) (by omega)) dX2_minuteWith_14 ?_
  refine lv_topi (fun x_3 ex_3 => ?_)
  have zx_3r0 : 0 ≤ x_3.toInt ∧ x_3.toInt ≤ 1000000 := by rw [ex_3]; exact PR.ld hp_obg2_0 (by omega) (by omega) (by omega)
  refine lv_aload_n hx hb dX2_minuteWith_15 rfl (lv_at hl 1 rfl) ?_
  refine va_get (D := D) (ci := 2) (v := .ref ob_3) (C := RX2) (T := TX2) (N := 6) hx hb hts iT_X2 hown hK hP 0 rfl rfl 3 (by decide) (hts _ tw_2_100) (fun _ h9 => h9) rfl dX2_minuteWith_16 ?_
  refine lv_iload hx hb dX2_minuteWith_19 (lv_at hl 0 rfl) ?_
  refine va_iald hx hb hK hP 2 0 rfl rfl (z_in (by omega) (by omega)) dX2_minuteWith_21 ?_
  refine lv_topi (fun x_4 ex_4 => ?_)
  have zx_4r0 : 0 ≤ x_4.toInt ∧ x_4.toInt ≤ 1000000 := by rw [ex_4]; exact PR.ld hp_obg3_0 (by omega) (by omega) (by omega)
  refine lv_iload_n hx hb dX2_minuteWith_22 rfl (lv_at hl 3 rfl) ?_
  refine lv_iadd hx hb dX2_minuteWith_23 ?_
  refine lv_topi (fun x_5 ex_5 => ?_)
  have zx_5 : x_5.toInt = x_4.toInt + p1.toInt := by rw [ex_5]; exact z_add rfl rfl (by omega) (by omega)
  obtain ⟨hPc, hDc, hFc⟩ := sub3 hP hD hS hA (ws' := []) [] (by decide +kernel) rfl
  refine va_calli (va_runS (As := [.int x_3, .int x_5]) (rest := []) ⟨hx, hb, hml, hown, hts⟩ (c_J9_min_7cf53 l D k x_3 x_5 s.heap.size) (va_cwS 2 hts (gS tw_4_184 tw_3_17 tw_1_14 tw_3_18) rfl rfl rfl hdS_J9_min_7cf53 ⟨Nat.le_of_ble_eq_true rfl, Nat.le_of_ble_eq_true rfl⟩) (cz_S hK hPc hDc hN [.int x_3, .int x_5]) rfl rfl hl.1 rfl (lv_room (Nat.le_of_ble_eq_true rfl)) dX2_minuteWith_24 ⟨Nat.le_of_ble_eq_true rfl, Nat.le_of_ble_eq_true rfl⟩) hS (fun q _ h => hFc q h) hFc (fun r_6 uZ tZ H1 locs ht hvm hw hB hz1 hk1 hS => ?_)
  obtain ⟨hP1, hK1, hD1⟩ := hB
  rw [ht] at hP1
  obtain ⟨hP, hD⟩ := va_join (wr := [(ob, .inr (2, [.int obv0, .ref obb, .ref ob_2, .ref ob_3, .ref ob_4, .ref ob_5])), (ob_2, .inl (k 0, 32, .inl obg2)), (ob_3, .inl (k 0, 32, .inl obg3))]) (w1 := []) hP hD [] [0, 1, 2] rfl rfl (by decide +kernel) (by decide +kernel) hk1 hFc hP1 hD1
  clear hK1 hP1 hD1 hPc hDc hFc
  clear hk1 hz1 ht hvm
  have hP : va_P D vwCl [(ob, .inr (2, [.int obv0, .ref obb, .ref ob_2, .ref ob_3, .ref ob_4, .ref ob_5])), (ob_2, .inl (k 0, 32, .inl obg2)), (ob_3, .inl (k 0, 32, .inl obg3))] H1 := hP
  have hD : va_D A [(ob, .inr (2, [.int obv0, .ref obb, .ref ob_2, .ref ob_3, .ref ob_4, .ref ob_5])), (ob_2, .inl (k 0, 32, .inl obg2)), (ob_3, .inl (k 0, 32, .inl obg3))] := hD
  generalize H1 = H at hP hS ⊢
  have hw_7 : (r_6.toInt ≤ x_3.toInt ∧ r_6.toInt ≤ x_5.toInt ∧ (r_6.toInt = x_3.toInt ∨ r_6.toInt = x_5.toInt)) := hw
  have hw_8 := hw_7
  clear hw
  obtain ⟨hP9, hD9⟩ := sub2 hP hD (ws' := [(ob, .inr (2, [.int obv0, .ref obb, .ref ob_2, .ref ob_3, .ref ob_4, .ref ob_5])), (ob_2, .inl (k 0, 32, .inl obg2)), (ob_3, .inl (k 0, 32, .inl obg3))]) [0, 1, 2] (by decide +kernel) rfl
  exact W.iret (v := r_6) hx hb hr (fun tZ ht hW => ⟨⟨r_6, (), rfl, (show 0 ≤ r_6.toInt ∧ r_6.toInt ≤ 1000000 from by omega), by rw [ht]; exact hP9, va_K.moved hW.alike hK, hD9⟩, hS.F ht⟩) hS.2.2 dX2_minuteWith_27
set_option maxHeartbeats 4000000 in
set_option maxRecDepth 100000 in
theorem c_X2_gladWith (l : Launch) (D : va_G) (k : Nat → ClassId) (ob : Nat) (tn : Nat) (p1 : Int32) (p2 : Int32) (obv0 : Int32) (obb : Nat) (ob_2 : Nat) (ob_3 : Nat) (ob_4 : Nat) (ob_5 : Nat) (obg2 : Nat → Int32) (obg3 : Nat → Int32) (tnv0 : Int32) (tnv1 : Int32) (tnv2 : Int32) (tn_3 : Nat) (tn_4 : Nat) (tn_5 : Nat) (tn_6 : Nat) (tnv7 : Int32) (tnv8 : Int32) (tn_9 : Nat) (tn_10 : Nat) (tnv11 : Int32) (tn_12 : Nat) (tn_13 : Nat) (tn_14 : Nat) (tn_15 : Nat) (tnv16 : Int32) (tn_17 : Nat) (tn_18 : Nat) (tnt : Nat) (tng12 : Nat → Int32) (tng13 : Nat → Int32) (tng14 : Nat → Int32) (sz : Nat) (h_p1 : 0 ≤ p1.toInt ∧ p1.toInt ≤ 3) (h_p2 : 0 ≤ p2.toInt ∧ p2.toInt ≤ 99) (hp_obg2_0 : PR 32 1 0 0 1000000 obg2) (hp_obg3_0 : PR 32 1 0 0 1000000 obg3) (h_tnv0 : 0 ≤ tnv0.toInt ∧ tnv0.toInt ≤ 8) (h_tnv2 : 0 ≤ tnv2.toInt ∧ tnv2.toInt ≤ 10) (h_tnv8 : 0 ≤ tnv8.toInt ∧ tnv8.toInt ≤ 4) (h_tnv11 : 0 ≤ tnv11.toInt ∧ tnv11.toInt ≤ 6) (h_tnv16 : 0 ≤ tnv16.toInt ∧ tnv16.toInt ≤ 2) (hp_tng12_0 : PR 6 1 0 0 7 tng12) (hp_tng13_0 : PR 6 1 0 0 999 tng13) (hp_tng14_0 : PR 6 1 0 0 999 tng14) : Met l yX2_gladWith (ww yX2_gladWith cX2_gladWith 6 (some .int)) ({ frames := 2, cells := 0, slots := 0, locals := 45 }) (Pre0 D k [(ob, .inr (2, [.int obv0, .ref obb, .ref ob_2, .ref ob_3, .ref ob_4, .ref ob_5])), (ob_2, .inl (k 0, 32, .inl obg2)), (ob_3, .inl (k 0, 32, .inl obg3)), (tn, .inr (10, [.int tnv0, .int tnv1, .int tnv2, .ref tn_3, .ref tn_4, .ref tn_5, .ref tn_6, .int tnv7, .int tnv8, .ref tn_9, .ref tn_10, .int tnv11, .ref tn_12, .ref tn_13, .ref tn_14, .ref tn_15, .int tnv16, .ref tn_17, .ref tn_18, .ref tnt])), (tn_12, .inl (k 0, 6, .inl tng12)), (tn_13, .inl (k 0, 6, .inl tng13)), (tn_14, .inl (k 0, 6, .inl tng14))] sz [.ref ob, .ref tn, .int p1, .int p2]) (va_Qi (fun (r : Int32) (_ : Unit) => True) (fun (_ : Unit) tZ => Bw D k (va_A [(ob, .inr (2, [.int obv0, .ref obb, .ref ob_2, .ref ob_3, .ref ob_4, .ref ob_5])), (ob_2, .inl (k 0, 32, .inl obg2)), (ob_3, .inl (k 0, 32, .inl obg3)), (tn, .inr (10, [.int tnv0, .int tnv1, .int tnv2, .ref tn_3, .ref tn_4, .ref tn_5, .ref tn_6, .int tnv7, .int tnv8, .ref tn_9, .ref tn_10, .int tnv11, .ref tn_12, .ref tn_13, .ref tn_14, .ref tn_15, .int tnv16, .ref tn_17, .ref tn_18, .ref tnt])), (tn_12, .inl (k 0, 6, .inl tng12)), (tn_13, .inl (k 0, 6, .inl tng13)), (tn_14, .inl (k 0, 6, .inl tng14))] sz) [(ob, .inr (2, [.int obv0, .ref obb, .ref ob_2, .ref ob_3, .ref ob_4, .ref ob_5])), (ob_2, .inl (k 0, 32, .inl obg2)), (ob_3, .inl (k 0, 32, .inl obg3)), (tn, .inr (10, [.int tnv0, .int tnv1, .int tnv2, .ref tn_3, .ref tn_4, .ref tn_5, .ref tn_6, .int tnv7, .int tnv8, .ref tn_9, .ref tn_10, .int tnv11, .ref tn_12, .ref tn_13, .ref tn_14, .ref tn_15, .int tnv16, .ref tn_17, .ref tn_18, .ref tnt])), (tn_12, .inl (k 0, 6, .inl tng12)), (tn_13, .inl (k 0, 6, .inl tng13)), (tn_14, .inl (k 0, 6, .inl tng14))] tZ) (va_A [(ob, .inr (2, [.int obv0, .ref obb, .ref ob_2, .ref ob_3, .ref ob_4, .ref ob_5])), (ob_2, .inl (k 0, 32, .inl obg2)), (ob_3, .inl (k 0, 32, .inl obg3)), (tn, .inr (10, [.int tnv0, .int tnv1, .int tnv2, .ref tn_3, .ref tn_4, .ref tn_5, .ref tn_6, .int tnv7, .int tnv8, .ref tn_9, .ref tn_10, .int tnv11, .ref tn_12, .ref tn_13, .ref tn_14, .ref tn_15, .int tnv16, .ref tn_17, .ref tn_18, .ref tnt])), (tn_12, .inl (k 0, 6, .inl tng12)), (tn_13, .inl (k 0, 6, .inl tng13)), (tn_14, .inl (k 0, 6, .inl tng14))] sz)) 0 0 (va_A [(ob, .inr (2, [.int obv0, .ref obb, .ref ob_2, .ref ob_3, .ref ob_4, .ref ob_5])), (ob_2, .inl (k 0, 32, .inl obg2)), (ob_3, .inl (k 0, 32, .inl obg3)), (tn, .inr (10, [.int tnv0, .int tnv1, .int tnv2, .ref tn_3, .ref tn_4, .ref tn_5, .ref tn_6, .int tnv7, .int tnv8, .ref tn_9, .ref tn_10, .int tnv11, .ref tn_12, .ref tn_13, .ref tn_14, .ref tn_15, .int tnv16, .ref tn_17, .ref tn_18, .ref tnt])), (tn_12, .inl (k 0, 6, .inl tng12)), (tn_13, .inl (k 0, 6, .inl tng13)), (tn_14, .inl (k 0, 6, .inl tng14))] sz) := by
  refine Met.ofW (cc := cX2_gladWith) (maxL := 6) (ret := (some .int)) (by decide +kernel) rfl ?_
  intro p e s m args below meth c s₁ B hml hv
  obtain ⟨rfl, hsz, hP, hK, hD0, hN⟩ := hv
  have hx := B.exec
  have hb := B.bytes
  have hr := B.returns
  have hts : ∀ w ∈ TT, w.before _ s = true := fun w h => atoms_spec (ws := ww yX2_gladWith cX2_gladWith 6 (some .int)) B.pre w (List.mem_cons_of_mem _ h)
  have hown : s.vm.findClass RX2 = some m.cls := findClass_of_methodNamed B.named
  have hlocks := B.notSynchronized
  subst hsz
  have hD := hD0.self (sz := s.heap.size)
  generalize hAe : va_A [(ob, .inr (2, [.int obv0, .ref obb, .ref ob_2, .ref ob_3, .ref ob_4, .ref ob_5])), (ob_2, .inl (k 0, 32, .inl obg2)), (ob_3, .inl (k 0, 32, .inl obg3)), (tn, .inr (10, [.int tnv0, .int tnv1, .int tnv2, .ref tn_3, .ref tn_4, .ref tn_5, .ref tn_6, .int tnv7, .int tnv8, .ref tn_9, .ref tn_10, .int tnv11, .ref tn_12, .ref tn_13, .ref tn_14, .ref tn_15, .int tnv16, .ref tn_17, .ref tn_18, .ref tnt])), (tn_12, .inl (k 0, 6, .inl tng12)), (tn_13, .inl (k 0, 6, .inl tng13)), (tn_14, .inl (k 0, 6, .inl tng14))] s.heap.size = A at hD ⊢
  have hA : ∀ q : Nat, s.heap.size ≤ q → A q := fun q h => by rw [← hAe]; exact Or.inr h
  have hS : va_S A s.heap s.heap [] := va_S.rf
  have hl := lv_entry ([.ref ob, .ref tn, .int p1, .int p2]) (n := 6) (Nat.le_of_ble_eq_true rfl)
  rw [lg_entry_eq]
  generalize (lg_sl ([.ref ob, .ref tn, .int p1, .int p2]) ++ List.replicate (6 - (lg_sl ([.ref ob, .ref tn, .int p1, .int p2])).length) Slot.unset).toArray = ls at hl ⊢
  have hl : lv_has ls 6 [(0, .ref ob), (1, .ref tn), (2, .int p1), (3, .int p2)] := hl
  refine lv_iconst (v := 0) hx hb dX2_gladWith_0 (by decide) ?_
  refine lv_istore (lv' := [(4, .int 0), (0, .ref ob), (1, .ref tn), (2, .int p1), (3, .int p2)]) hx hb dX2_gladWith_1 hl (by decide) rfl (fun ls hl => ?_)
  refine lv_iconst (v := 0) hx hb dX2_gladWith_3 (by decide) ?_
  refine lv_istore (lv' := [(5, .int 0), (4, .int 0), (0, .ref ob), (1, .ref tn), (2, .int p1), (3, .int p2)]) hx hb dX2_gladWith_4 hl (by decide) rfl (fun ls hl => ?_)
  refine loop_r (Wg := fun H locs ls => W p l e _ s m _ below meth c H locs _ _ _ (F0 m 6 ls [])) (fun n9 H locs ls => ∃ (L6l4 : Int32) (L6l5 : Int32), n9 = (6 - L6l5.toInt).toNat ∧ (0 ≤ L6l5.toInt ∧ L6l5.toInt ≤ 6) ∧ va_P D vwCl [(ob, .inr (2, [.int obv0, .ref obb, .ref ob_2, .ref ob_3, .ref ob_4, .ref ob_5])), (ob_2, .inl (k 0, 32, .inl obg2)), (ob_3, .inl (k 0, 32, .inl obg3)), (tn, .inr (10, [.int tnv0, .int tnv1, .int tnv2, .ref tn_3, .ref tn_4, .ref tn_5, .ref tn_6, .int tnv7, .int tnv8, .ref tn_9, .ref tn_10, .int tnv11, .ref tn_12, .ref tn_13, .ref tn_14, .ref tn_15, .int tnv16, .ref tn_17, .ref tn_18, .ref tnt])), (tn_12, .inl (k 0, 6, .inl tng12)), (tn_13, .inl (k 0, 6, .inl tng13)), (tn_14, .inl (k 0, 6, .inl tng14))] H ∧ va_D A [(ob, .inr (2, [.int obv0, .ref obb, .ref ob_2, .ref ob_3, .ref ob_4, .ref ob_5])), (ob_2, .inl (k 0, 32, .inl obg2)), (ob_3, .inl (k 0, 32, .inl obg3)), (tn, .inr (10, [.int tnv0, .int tnv1, .int tnv2, .ref tn_3, .ref tn_4, .ref tn_5, .ref tn_6, .int tnv7, .int tnv8, .ref tn_9, .ref tn_10, .int tnv11, .ref tn_12, .ref tn_13, .ref tn_14, .ref tn_15, .int tnv16, .ref tn_17, .ref tn_18, .ref tnt])), (tn_12, .inl (k 0, 6, .inl tng12)), (tn_13, .inl (k 0, 6, .inl tng13)), (tn_14, .inl (k 0, 6, .inl tng14))] ∧ va_S A s.heap H locs ∧ lv_has ls 6 [(0, .ref ob), (1, .ref tn), (2, .int p1), (3, .int p2), (4, .int L6l4), (5, .int L6l5)]) (fun n9 H locs ls hI ih_1 => ?_) _ _ _ _ ⟨0, 0, rfl, (show 0 ≤ 0 ∧ 0 ≤ 6 from by omega), hP.sub (ws' := [(ob, .inr (2, [.int obv0, .ref obb, .ref ob_2, .ref ob_3, .ref ob_4, .ref ob_5])), (ob_2, .inl (k 0, 32, .inl obg2)), (ob_3, .inl (k 0, 32, .inl obg3)), (tn, .inr (10, [.int tnv0, .int tnv1, .int tnv2, .ref tn_3, .ref tn_4, .ref tn_5, .ref tn_6, .int tnv7, .int tnv8, .ref tn_9, .ref tn_10, .int tnv11, .ref tn_12, .ref tn_13, .ref tn_14, .ref tn_15, .int tnv16, .ref tn_17, .ref tn_18, .ref tnt])), (tn_12, .inl (k 0, 6, .inl tng12)), (tn_13, .inl (k 0, 6, .inl tng13)), (tn_14, .inl (k 0, 6, .inl tng14))]) [0, 1, 2, 3, 4, 5, 6] rfl, hD.sub (ws' := [(ob, .inr (2, [.int obv0, .ref obb, .ref ob_2, .ref ob_3, .ref ob_4, .ref ob_5])), (ob_2, .inl (k 0, 32, .inl obg2)), (ob_3, .inl (k 0, 32, .inl obg3)), (tn, .inr (10, [.int tnv0, .int tnv1, .int tnv2, .ref tn_3, .ref tn_4, .ref tn_5, .ref tn_6, .int tnv7, .int tnv8, .ref tn_9, .ref tn_10, .int tnv11, .ref tn_12, .ref tn_13, .ref tn_14, .ref tn_15, .int tnv16, .ref tn_17, .ref tn_18, .ref tnt])), (tn_12, .inl (k 0, 6, .inl tng12)), (tn_13, .inl (k 0, 6, .inl tng13)), (tn_14, .inl (k 0, 6, .inl tng14))]) [0, 1, 2, 3, 4, 5, 6] (by decide +kernel) rfl, hS, lv_sub hl [2, 3, 4, 5, 1, 0] rfl⟩
  clear hP hD hS hl
  obtain ⟨L6l4, L6l5, en_2, zL6l5, hP, hD, hS, hl⟩ := hI
  refine lv_iload hx hb dX2_gladWith_6 (lv_at hl 5 rfl) ?_
  refine lv_aload_n hx hb dX2_gladWith_8 rfl (lv_at hl 1 rfl) ?_
  refine va_get (D := D) (ci := 10) (v := .int tnv11) (C := RX10) (T := TX10) (N := 20) hx hb hts iT_X10 hown hK hP 3 rfl rfl 11 (by decide) (hts _ tw_1_121) (fun _ h9 => h9) rfl dX2_gladWith_9 ?_
  refine lv_icmp_ge (tgt := 45) hx hb dX2_gladWith_12 (by decide) (fun h_3 => ?_) (fun h_3 => ?_)
  · skip
    have zh_3 : tnv11.toInt ≤ L6l5.toInt := z_le h_3
    refine lv_iload hx hb dX2_gladWith_45 (lv_at hl 4 rfl) ?_
    obtain ⟨hP9, hD9⟩ := sub2 hP hD (ws' := [(ob, .inr (2, [.int obv0, .ref obb, .ref ob_2, .ref ob_3, .ref ob_4, .ref ob_5])), (ob_2, .inl (k 0, 32, .inl obg2)), (ob_3, .inl (k 0, 32, .inl obg3)), (tn, .inr (10, [.int tnv0, .int tnv1, .int tnv2, .ref tn_3, .ref tn_4, .ref tn_5, .ref tn_6, .int tnv7, .int tnv8, .ref tn_9, .ref tn_10, .int tnv11, .ref tn_12, .ref tn_13, .ref tn_14, .ref tn_15, .int tnv16, .ref tn_17, .ref tn_18, .ref tnt])), (tn_12, .inl (k 0, 6, .inl tng12)), (tn_13, .inl (k 0, 6, .inl tng13)), (tn_14, .inl (k 0, 6, .inl tng14))]) [0, 1, 2, 3, 4, 5, 6] (by decide +kernel) rfl
    exact W.iret (v := L6l4) hx hb hr (fun tZ ht hW => ⟨⟨L6l4, (), rfl, trivial, by rw [ht]; exact hP9, va_K.moved hW.alike hK, hD9⟩, hS.F ht⟩) hS.2.2 dX2_gladWith_47
  · skip
    have zh_3 : L6l5.toInt < tnv11.toInt := z_nle h_3
    refine lv_iload hx hb dX2_gladWith_15 (lv_at hl 4 rfl) ?_
    refine lv_aload_n hx hb dX2_gladWith_17 rfl (lv_at hl 1 rfl) ?_
    refine lv_iload hx hb dX2_gladWith_18 (lv_at hl 5 rfl) ?_
    refine lv_aload_n hx hb dX2_gladWith_20 rfl (lv_at hl 0 rfl) ?_
    refine lv_iload_n hx hb dX2_gladWith_21 rfl (lv_at hl 2 rfl) ?_
    refine lv_iload_n hx hb dX2_gladWith_22 rfl (lv_at hl 3 rfl) ?_
    refine lv_aload_n hx hb dX2_gladWith_23 rfl (lv_at hl 1 rfl) ?_
    refine va_get (D := D) (ci := 10) (v := .ref tn_12) (C := RX10) (T := TX10) (N := 20) hx hb hts iT_X10 hown hK hP 3 rfl rfl 12 (by decide) (hts _ tw_1_126) (fun _ h9 => h9) rfl dX2_gladWith_24 ?_
    refine lv_iload hx hb dX2_gladWith_27 (lv_at hl 5 rfl) ?_
    refine va_iald hx hb hK hP 4 0 rfl rfl (z_in (by omega) (by omega)) dX2_gladWith_29 ?_
    refine lv_topi (fun x_4 ex_4 => ?_)
    have zx_4r0 : 0 ≤ x_4.toInt ∧ x_4.toInt ≤ 7 := by rw [ex_4]; exact PR.ld hp_tng12_0 (by omega) (by omega) (by omega)
    obtain ⟨hPc, hDc, hFc⟩ := sub3 hP hD hS hA (ws' := [(ob, .inr (2, [.int obv0, .ref obb, .ref ob_2, .ref ob_3, .ref ob_4, .ref ob_5])), (ob_2, .inl (k 0, 32, .inl obg2)), (ob_3, .inl (k 0, 32, .inl obg3))]) [0, 1, 2] (by decide +kernel) rfl
    refine va_calli (va_runV (C := RX2) (As := [.int p1, .int p2, .int x_4]) (rest := [.int L6l5, .ref tn, .int L6l4]) ⟨hx, hb, hml, hown, hts⟩ (c_X2_minuteWith l D k ob p1 p2 x_4 obv0 obb ob_2 ob_3 ob_4 ob_5 obg2 obg3 H.size (show 0 ≤ p1.toInt ∧ p1.toInt ≤ 3 from by omega) (show 0 ≤ p2.toInt ∧ p2.toInt ≤ 99 from by omega) (show 0 ≤ x_4.toInt ∧ x_4.toInt ≤ 7 from by omega) hp_obg2_0 hp_obg3_0) (cwV 3 hts (gV tw_4_198 tw_4_181 tw_4_182 tw_1_9 tw_4_183) rfl rfl rfl hdV_X2_minuteWith ⟨Nat.le_of_ble_eq_true rfl, Nat.le_of_ble_eq_true rfl⟩) (cz_V hK hPc hDc hN (ci := 2) (q0 := 0) rfl rfl [.int p1, .int p2, .int x_4]) rfl rfl hl.1 rfl (lv_room (Nat.le_of_ble_eq_true rfl)) dX2_gladWith_30 ⟨Nat.le_of_ble_eq_true rfl, Nat.le_of_ble_eq_true rfl⟩) hS (fun q _ h => hFc q h) hFc (fun r_5 uZ tZ H1 locs ht hvm hw hB hz1 hk1 hS => ?_)
    obtain ⟨hP1, hK1, hD1⟩ := hB
    rw [ht] at hP1
    obtain ⟨hP, hD⟩ := va_join (wr := [(tn, .inr (10, [.int tnv0, .int tnv1, .int tnv2, .ref tn_3, .ref tn_4, .ref tn_5, .ref tn_6, .int tnv7, .int tnv8, .ref tn_9, .ref tn_10, .int tnv11, .ref tn_12, .ref tn_13, .ref tn_14, .ref tn_15, .int tnv16, .ref tn_17, .ref tn_18, .ref tnt])), (tn_12, .inl (k 0, 6, .inl tng12)), (tn_13, .inl (k 0, 6, .inl tng13)), (tn_14, .inl (k 0, 6, .inl tng14))]) (w1 := [(ob, .inr (2, [.int obv0, .ref obb, .ref ob_2, .ref ob_3, .ref ob_4, .ref ob_5])), (ob_2, .inl (k 0, 32, .inl obg2)), (ob_3, .inl (k 0, 32, .inl obg3))]) hP hD [0, 1, 2] [3, 4, 5, 6] rfl rfl (by decide +kernel) (by decide +kernel) hk1 hFc hP1 hD1
    clear hK1 hP1 hD1 hPc hDc hFc
    clear hk1 hz1 ht hvm
    have hP : va_P D vwCl [(tn, .inr (10, [.int tnv0, .int tnv1, .int tnv2, .ref tn_3, .ref tn_4, .ref tn_5, .ref tn_6, .int tnv7, .int tnv8, .ref tn_9, .ref tn_10, .int tnv11, .ref tn_12, .ref tn_13, .ref tn_14, .ref tn_15, .int tnv16, .ref tn_17, .ref tn_18, .ref tnt])), (tn_12, .inl (k 0, 6, .inl tng12)), (tn_13, .inl (k 0, 6, .inl tng13)), (tn_14, .inl (k 0, 6, .inl tng14)), (ob, .inr (2, [.int obv0, .ref obb, .ref ob_2, .ref ob_3, .ref ob_4, .ref ob_5])), (ob_2, .inl (k 0, 32, .inl obg2)), (ob_3, .inl (k 0, 32, .inl obg3))] H1 := hP
    have hD : va_D A [(tn, .inr (10, [.int tnv0, .int tnv1, .int tnv2, .ref tn_3, .ref tn_4, .ref tn_5, .ref tn_6, .int tnv7, .int tnv8, .ref tn_9, .ref tn_10, .int tnv11, .ref tn_12, .ref tn_13, .ref tn_14, .ref tn_15, .int tnv16, .ref tn_17, .ref tn_18, .ref tnt])), (tn_12, .inl (k 0, 6, .inl tng12)), (tn_13, .inl (k 0, 6, .inl tng13)), (tn_14, .inl (k 0, 6, .inl tng14)), (ob, .inr (2, [.int obv0, .ref obb, .ref ob_2, .ref ob_3, .ref ob_4, .ref ob_5])), (ob_2, .inl (k 0, 32, .inl obg2)), (ob_3, .inl (k 0, 32, .inl obg3))] := hD
    generalize H1 = H at hP hS ⊢
    have hw_6 : (0 ≤ r_5.toInt ∧ r_5.toInt ≤ 1000000) := hw
    have hw_7 := hw_6
    clear hw
    obtain ⟨hPc, hDc, hFc⟩ := sub3 hP hD hS hA (ws' := [(tn, .inr (10, [.int tnv0, .int tnv1, .int tnv2, .ref tn_3, .ref tn_4, .ref tn_5, .ref tn_6, .int tnv7, .int tnv8, .ref tn_9, .ref tn_10, .int tnv11, .ref tn_12, .ref tn_13, .ref tn_14, .ref tn_15, .int tnv16, .ref tn_17, .ref tn_18, .ref tnt])), (tn_13, .inl (k 0, 6, .inl tng13)), (tn_14, .inl (k 0, 6, .inl tng14))]) [0, 2, 3] (by decide +kernel) rfl
    refine va_calli (va_runS (As := [.ref tn, .int L6l5, .int r_5]) (rest := [.int L6l4]) ⟨hx, hb, hml, hown, hts⟩ (c_X1_gladAt l D k tn L6l5 r_5 tnv0 tnv1 tnv2 tn_3 tn_4 tn_5 tn_6 tnv7 tnv8 tn_9 tn_10 tnv11 tn_12 tn_13 tn_14 tn_15 tnv16 tn_17 tn_18 tnt tng13 tng14 H.size (show 0 ≤ L6l5.toInt ∧ L6l5.toInt ≤ 5 from by omega) (show 0 ≤ tnv0.toInt ∧ tnv0.toInt ≤ 8 from by omega) (show 0 ≤ tnv2.toInt ∧ tnv2.toInt ≤ 10 from by omega) (show 0 ≤ tnv8.toInt ∧ tnv8.toInt ≤ 4 from by omega) (show 0 ≤ tnv11.toInt ∧ tnv11.toInt ≤ 6 from by omega) (show 0 ≤ tnv16.toInt ∧ tnv16.toInt ≤ 2 from by omega) hp_tng13_0 hp_tng14_0) (va_cwS 3 hts (gS tw_4_199 tw_4_77 tw_1_6 tw_4_78) rfl rfl rfl hdS_X1_gladAt ⟨Nat.le_of_ble_eq_true rfl, Nat.le_of_ble_eq_true rfl⟩) (cz_S hK hPc hDc hN [.ref tn, .int L6l5, .int r_5]) rfl rfl hl.1 rfl (lv_room (Nat.le_of_ble_eq_true rfl)) dX2_gladWith_33 ⟨Nat.le_of_ble_eq_true rfl, Nat.le_of_ble_eq_true rfl⟩) hS (fun q _ h => hFc q h) hFc (fun r_8 uZ tZ H1 locs ht hvm hw hB hz1 hk1 hS => ?_)
    obtain ⟨hP1, hK1, hD1⟩ := hB
    rw [ht] at hP1
    obtain ⟨hP, hD⟩ := va_join (wr := [(tn_12, .inl (k 0, 6, .inl tng12)), (ob, .inr (2, [.int obv0, .ref obb, .ref ob_2, .ref ob_3, .ref ob_4, .ref ob_5])), (ob_2, .inl (k 0, 32, .inl obg2)), (ob_3, .inl (k 0, 32, .inl obg3))]) (w1 := [(tn, .inr (10, [.int tnv0, .int tnv1, .int tnv2, .ref tn_3, .ref tn_4, .ref tn_5, .ref tn_6, .int tnv7, .int tnv8, .ref tn_9, .ref tn_10, .int tnv11, .ref tn_12, .ref tn_13, .ref tn_14, .ref tn_15, .int tnv16, .ref tn_17, .ref tn_18, .ref tnt])), (tn_13, .inl (k 0, 6, .inl tng13)), (tn_14, .inl (k 0, 6, .inl tng14))]) hP hD [0, 2, 3] [1, 4, 5, 6] rfl rfl (by decide +kernel) (by decide +kernel) hk1 hFc hP1 hD1
    clear hK1 hP1 hD1 hPc hDc hFc
    clear hk1 hz1 ht hvm
    have hP : va_P D vwCl [(tn_12, .inl (k 0, 6, .inl tng12)), (ob, .inr (2, [.int obv0, .ref obb, .ref ob_2, .ref ob_3, .ref ob_4, .ref ob_5])), (ob_2, .inl (k 0, 32, .inl obg2)), (ob_3, .inl (k 0, 32, .inl obg3)), (tn, .inr (10, [.int tnv0, .int tnv1, .int tnv2, .ref tn_3, .ref tn_4, .ref tn_5, .ref tn_6, .int tnv7, .int tnv8, .ref tn_9, .ref tn_10, .int tnv11, .ref tn_12, .ref tn_13, .ref tn_14, .ref tn_15, .int tnv16, .ref tn_17, .ref tn_18, .ref tnt])), (tn_13, .inl (k 0, 6, .inl tng13)), (tn_14, .inl (k 0, 6, .inl tng14))] H1 := hP
    have hD : va_D A [(tn_12, .inl (k 0, 6, .inl tng12)), (ob, .inr (2, [.int obv0, .ref obb, .ref ob_2, .ref ob_3, .ref ob_4, .ref ob_5])), (ob_2, .inl (k 0, 32, .inl obg2)), (ob_3, .inl (k 0, 32, .inl obg3)), (tn, .inr (10, [.int tnv0, .int tnv1, .int tnv2, .ref tn_3, .ref tn_4, .ref tn_5, .ref tn_6, .int tnv7, .int tnv8, .ref tn_9, .ref tn_10, .int tnv11, .ref tn_12, .ref tn_13, .ref tn_14, .ref tn_15, .int tnv16, .ref tn_17, .ref tn_18, .ref tnt])), (tn_13, .inl (k 0, 6, .inl tng13)), (tn_14, .inl (k 0, 6, .inl tng14))] := hD
    generalize H1 = H at hP hS ⊢
    have hw_9 : (0 ≤ r_8.toInt ∧ r_8.toInt ≤ 2147483647) := hw
    have hw_10 := hw_9
    clear hw
    refine lv_iadd hx hb dX2_gladWith_36 ?_
    refine lv_topi (fun x_11 ex_11 => ?_)
    have zrL6l4 := z_rng L6l4
    have zrr_8 := z_rng r_8
    refine lv_istore (lv' := [(4, .int x_11), (0, .ref ob), (1, .ref tn), (2, .int p1), (3, .int p2), (5, .int L6l5)]) hx hb dX2_gladWith_37 hl (by decide) rfl (fun ls hl => ?_)
    obtain ⟨x_12, ex_12⟩ : ∃ y : Int32, y = L6l5 + 1 := ⟨_, rfl⟩
    have zx_12 : x_12.toInt = L6l5.toInt + 1 := by rw [ex_12]; exact z_add rfl rfl (by omega) (by omega)
    refine lv_iinc (v := x_12) (lv' := [(5, .int x_12), (4, .int x_11), (0, .ref ob), (1, .ref tn), (2, .int p1), (3, .int p2)]) hx hb dX2_gladWith_39 hl (k := 5) rfl (by rw [ex_12]; rfl) (by decide) rfl (fun ls hl => ?_)
    refine lv_goto (tgt := 6) hx hb dX2_gladWith_42 (by decide) ?_
    exact ih_1 _ _ _ _ (by omega) ⟨x_11, x_12, rfl, (show 0 ≤ x_12.toInt ∧ x_12.toInt ≤ 6 from by omega), hP.sub (ws' := [(ob, .inr (2, [.int obv0, .ref obb, .ref ob_2, .ref ob_3, .ref ob_4, .ref ob_5])), (ob_2, .inl (k 0, 32, .inl obg2)), (ob_3, .inl (k 0, 32, .inl obg3)), (tn, .inr (10, [.int tnv0, .int tnv1, .int tnv2, .ref tn_3, .ref tn_4, .ref tn_5, .ref tn_6, .int tnv7, .int tnv8, .ref tn_9, .ref tn_10, .int tnv11, .ref tn_12, .ref tn_13, .ref tn_14, .ref tn_15, .int tnv16, .ref tn_17, .ref tn_18, .ref tnt])), (tn_12, .inl (k 0, 6, .inl tng12)), (tn_13, .inl (k 0, 6, .inl tng13)), (tn_14, .inl (k 0, 6, .inl tng14))]) [1, 2, 3, 4, 0, 5, 6] rfl, hD.sub (ws' := [(ob, .inr (2, [.int obv0, .ref obb, .ref ob_2, .ref ob_3, .ref ob_4, .ref ob_5])), (ob_2, .inl (k 0, 32, .inl obg2)), (ob_3, .inl (k 0, 32, .inl obg3)), (tn, .inr (10, [.int tnv0, .int tnv1, .int tnv2, .ref tn_3, .ref tn_4, .ref tn_5, .ref tn_6, .int tnv7, .int tnv8, .ref tn_9, .ref tn_10, .int tnv11, .ref tn_12, .ref tn_13, .ref tn_14, .ref tn_15, .int tnv16, .ref tn_17, .ref tn_18, .ref tnt])), (tn_12, .inl (k 0, 6, .inl tng12)), (tn_13, .inl (k 0, 6, .inl tng13)), (tn_14, .inl (k 0, 6, .inl tng14))]) [1, 2, 3, 4, 0, 5, 6] (by decide +kernel) rfl, hS, lv_sub hl [2, 3, 4, 5, 1, 0] rfl⟩
set_option maxHeartbeats 4000000 in
set_option maxRecDepth 100000 in
theorem c_X2_gladdestHold (l : Launch) (D : va_G) (k : Nat → ClassId) (ob : Nat) (tn : Nat) (p1 : Int32) (obv0 : Int32) (obb : Nat) (ob_2 : Nat) (ob_3 : Nat) (ob_4 : Nat) (ob_5 : Nat) (obb_0 : Nat) (obbv1 : Int32) (obbv2 : Int32) (obbg0 : Nat → Int32) (obg2 : Nat → Int32) (obg3 : Nat → Int32) (tnv0 : Int32) (tnv1 : Int32) (tnv2 : Int32) (tn_3 : Nat) (tn_4 : Nat) (tn_5 : Nat) (tn_6 : Nat) (tnv7 : Int32) (tnv8 : Int32) (tn_9 : Nat) (tn_10 : Nat) (tnv11 : Int32) (tn_12 : Nat) (tn_13 : Nat) (tn_14 : Nat) (tn_15 : Nat) (tnv16 : Int32) (tn_17 : Nat) (tn_18 : Nat) (tnt : Nat) (tng3 : Nat → Int32) (tng4 : Nat → Int32) (tng5 : Nat → Int32) (tng9 : Nat → Int32) (tng10 : Nat → Int32) (tng12 : Nat → Int32) (tng13 : Nat → Int32) (tng14 : Nat → Int32) (sz : Nat) (h_p1 : 0 ≤ p1.toInt ∧ p1.toInt ≤ 3) (hp_obbg0_0 : PR 8 1 0 0 1000000 obbg0) (hp_obg2_0 : PR 32 1 0 0 1000000 obg2) (hp_obg3_0 : PR 32 1 0 0 1000000 obg3) (h_tnv0 : 0 ≤ tnv0.toInt ∧ tnv0.toInt ≤ 8) (h_tnv2 : 0 ≤ tnv2.toInt ∧ tnv2.toInt ≤ 10) (h_tnv8 : 0 ≤ tnv8.toInt ∧ tnv8.toInt ≤ 4) (h_tnv11 : 0 ≤ tnv11.toInt ∧ tnv11.toInt ≤ 6) (h_tnv16 : 0 ≤ tnv16.toInt ∧ tnv16.toInt ≤ 2) (hp_tng3_0 : PR 10 1 0 0 7 tng3) (hp_tng4_0 : PR 10 1 0 0 7 tng4) (hp_tng5_0 : PR 10 1 0 0 60 tng5) (hp_tng9_0 : PR 4 1 0 0 7 tng9) (hp_tng10_0 : PR 4 1 0 0 99 tng10) (hp_tng12_0 : PR 6 1 0 0 7 tng12) (hp_tng13_0 : PR 6 1 0 0 999 tng13) (hp_tng14_0 : PR 6 1 0 0 999 tng14) : Met l yX2_gladdestHold (ww yX2_gladdestHold cX2_gladdestHold 7 (some .int)) ({ frames := 4, cells := 0, slots := 0, locals := 99 }) (Pre0 D k [(ob, .inr (2, [.int obv0, .ref obb, .ref ob_2, .ref ob_3, .ref ob_4, .ref ob_5])), (obb, .inr (1, [.ref obb_0, .int obbv1, .int obbv2])), (obb_0, .inl (k 0, 8, .inl obbg0)), (ob_2, .inl (k 0, 32, .inl obg2)), (ob_3, .inl (k 0, 32, .inl obg3)), (tn, .inr (10, [.int tnv0, .int tnv1, .int tnv2, .ref tn_3, .ref tn_4, .ref tn_5, .ref tn_6, .int tnv7, .int tnv8, .ref tn_9, .ref tn_10, .int tnv11, .ref tn_12, .ref tn_13, .ref tn_14, .ref tn_15, .int tnv16, .ref tn_17, .ref tn_18, .ref tnt])), (tn_3, .inl (k 0, 10, .inl tng3)), (tn_4, .inl (k 0, 10, .inl tng4)), (tn_5, .inl (k 0, 10, .inl tng5)), (tn_9, .inl (k 0, 4, .inl tng9)), (tn_10, .inl (k 0, 4, .inl tng10)), (tn_12, .inl (k 0, 6, .inl tng12)), (tn_13, .inl (k 0, 6, .inl tng13)), (tn_14, .inl (k 0, 6, .inl tng14))] sz [.ref ob, .ref tn, .int p1]) (va_Qi (fun (r : Int32) (u : Int32 × Int32 × (Nat → Int32) × (Nat → Int32) × (Nat → Int32)) => match u with | (obbv1z, obbv2z, obbg0z, obg2z, obg3z) => (0 ≤ r.toInt ∧ r.toInt ≤ 99) ∧ (PR 8 1 0 0 1000000 obbg0z) ∧ (PR 32 1 0 0 1000000 obg2z) ∧ (PR 32 1 0 0 1000000 obg3z)) (fun (u : Int32 × Int32 × (Nat → Int32) × (Nat → Int32) × (Nat → Int32)) tZ => match u with | (obbv1z, obbv2z, obbg0z, obg2z, obg3z) => Bw D k (va_A [(ob, .inr (2, [.int obv0, .ref obb, .ref ob_2, .ref ob_3, .ref ob_4, .ref ob_5])), (obb, .inr (1, [.ref obb_0, .int obbv1, .int obbv2])), (obb_0, .inl (k 0, 8, .inl obbg0)), (ob_2, .inl (k 0, 32, .inl obg2)), (ob_3, .inl (k 0, 32, .inl obg3)), (tn, .inr (10, [.int tnv0, .int tnv1, .int tnv2, .ref tn_3, .ref tn_4, .ref tn_5, .ref tn_6, .int tnv7, .int tnv8, .ref tn_9, .ref tn_10, .int tnv11, .ref tn_12, .ref tn_13, .ref tn_14, .ref tn_15, .int tnv16, .ref tn_17, .ref tn_18, .ref tnt])), (tn_3, .inl (k 0, 10, .inl tng3)), (tn_4, .inl (k 0, 10, .inl tng4)), (tn_5, .inl (k 0, 10, .inl tng5)), (tn_9, .inl (k 0, 4, .inl tng9)), (tn_10, .inl (k 0, 4, .inl tng10)), (tn_12, .inl (k 0, 6, .inl tng12)), (tn_13, .inl (k 0, 6, .inl tng13)), (tn_14, .inl (k 0, 6, .inl tng14))] sz) [(ob, .inr (2, [.int obv0, .ref obb, .ref ob_2, .ref ob_3, .ref ob_4, .ref ob_5])), (obb, .inr (1, [.ref obb_0, .int obbv1z, .int obbv2z])), (obb_0, .inl (k 0, 8, .inl obbg0z)), (ob_2, .inl (k 0, 32, .inl obg2z)), (ob_3, .inl (k 0, 32, .inl obg3z)), (tn, .inr (10, [.int tnv0, .int tnv1, .int tnv2, .ref tn_3, .ref tn_4, .ref tn_5, .ref tn_6, .int tnv7, .int tnv8, .ref tn_9, .ref tn_10, .int tnv11, .ref tn_12, .ref tn_13, .ref tn_14, .ref tn_15, .int tnv16, .ref tn_17, .ref tn_18, .ref tnt])), (tn_3, .inl (k 0, 10, .inl tng3)), (tn_4, .inl (k 0, 10, .inl tng4)), (tn_5, .inl (k 0, 10, .inl tng5)), (tn_9, .inl (k 0, 4, .inl tng9)), (tn_10, .inl (k 0, 4, .inl tng10)), (tn_12, .inl (k 0, 6, .inl tng12)), (tn_13, .inl (k 0, 6, .inl tng13)), (tn_14, .inl (k 0, 6, .inl tng14))] tZ) (va_A [(ob, .inr (2, [.int obv0, .ref obb, .ref ob_2, .ref ob_3, .ref ob_4, .ref ob_5])), (obb, .inr (1, [.ref obb_0, .int obbv1, .int obbv2])), (obb_0, .inl (k 0, 8, .inl obbg0)), (ob_2, .inl (k 0, 32, .inl obg2)), (ob_3, .inl (k 0, 32, .inl obg3)), (tn, .inr (10, [.int tnv0, .int tnv1, .int tnv2, .ref tn_3, .ref tn_4, .ref tn_5, .ref tn_6, .int tnv7, .int tnv8, .ref tn_9, .ref tn_10, .int tnv11, .ref tn_12, .ref tn_13, .ref tn_14, .ref tn_15, .int tnv16, .ref tn_17, .ref tn_18, .ref tnt])), (tn_3, .inl (k 0, 10, .inl tng3)), (tn_4, .inl (k 0, 10, .inl tng4)), (tn_5, .inl (k 0, 10, .inl tng5)), (tn_9, .inl (k 0, 4, .inl tng9)), (tn_10, .inl (k 0, 4, .inl tng10)), (tn_12, .inl (k 0, 6, .inl tng12)), (tn_13, .inl (k 0, 6, .inl tng13)), (tn_14, .inl (k 0, 6, .inl tng14))] sz)) 0 0 (va_A [(ob, .inr (2, [.int obv0, .ref obb, .ref ob_2, .ref ob_3, .ref ob_4, .ref ob_5])), (obb, .inr (1, [.ref obb_0, .int obbv1, .int obbv2])), (obb_0, .inl (k 0, 8, .inl obbg0)), (ob_2, .inl (k 0, 32, .inl obg2)), (ob_3, .inl (k 0, 32, .inl obg3)), (tn, .inr (10, [.int tnv0, .int tnv1, .int tnv2, .ref tn_3, .ref tn_4, .ref tn_5, .ref tn_6, .int tnv7, .int tnv8, .ref tn_9, .ref tn_10, .int tnv11, .ref tn_12, .ref tn_13, .ref tn_14, .ref tn_15, .int tnv16, .ref tn_17, .ref tn_18, .ref tnt])), (tn_3, .inl (k 0, 10, .inl tng3)), (tn_4, .inl (k 0, 10, .inl tng4)), (tn_5, .inl (k 0, 10, .inl tng5)), (tn_9, .inl (k 0, 4, .inl tng9)), (tn_10, .inl (k 0, 4, .inl tng10)), (tn_12, .inl (k 0, 6, .inl tng12)), (tn_13, .inl (k 0, 6, .inl tng13)), (tn_14, .inl (k 0, 6, .inl tng14))] sz) := by
  refine Met.ofW (cc := cX2_gladdestHold) (maxL := 7) (ret := (some .int)) (by decide +kernel) rfl ?_
  intro p e s m args below meth c s₁ B hml hv
  obtain ⟨rfl, hsz, hP, hK, hD0, hN⟩ := hv
  have hx := B.exec
  have hb := B.bytes
  have hr := B.returns
  have hts : ∀ w ∈ TT, w.before _ s = true := fun w h => atoms_spec (ws := ww yX2_gladdestHold cX2_gladdestHold 7 (some .int)) B.pre w (List.mem_cons_of_mem _ h)
  have hown : s.vm.findClass RX2 = some m.cls := findClass_of_methodNamed B.named
  have hlocks := B.notSynchronized
  subst hsz
  have hD := hD0.self (sz := s.heap.size)
  generalize hAe : va_A [(ob, .inr (2, [.int obv0, .ref obb, .ref ob_2, .ref ob_3, .ref ob_4, .ref ob_5])), (obb, .inr (1, [.ref obb_0, .int obbv1, .int obbv2])), (obb_0, .inl (k 0, 8, .inl obbg0)), (ob_2, .inl (k 0, 32, .inl obg2)), (ob_3, .inl (k 0, 32, .inl obg3)), (tn, .inr (10, [.int tnv0, .int tnv1, .int tnv2, .ref tn_3, .ref tn_4, .ref tn_5, .ref tn_6, .int tnv7, .int tnv8, .ref tn_9, .ref tn_10, .int tnv11, .ref tn_12, .ref tn_13, .ref tn_14, .ref tn_15, .int tnv16, .ref tn_17, .ref tn_18, .ref tnt])), (tn_3, .inl (k 0, 10, .inl tng3)), (tn_4, .inl (k 0, 10, .inl tng4)), (tn_5, .inl (k 0, 10, .inl tng5)), (tn_9, .inl (k 0, 4, .inl tng9)), (tn_10, .inl (k 0, 4, .inl tng10)), (tn_12, .inl (k 0, 6, .inl tng12)), (tn_13, .inl (k 0, 6, .inl tng13)), (tn_14, .inl (k 0, 6, .inl tng14))] s.heap.size = A at hD ⊢
  have hA : ∀ q : Nat, s.heap.size ≤ q → A q := fun q h => by rw [← hAe]; exact Or.inr h
  have hS : va_S A s.heap s.heap [] := va_S.rf
  have hl := lv_entry ([.ref ob, .ref tn, .int p1]) (n := 7) (Nat.le_of_ble_eq_true rfl)
  rw [lg_entry_eq]
  generalize (lg_sl ([.ref ob, .ref tn, .int p1]) ++ List.replicate (7 - (lg_sl ([.ref ob, .ref tn, .int p1])).length) Slot.unset).toArray = ls at hl ⊢
  have hl : lv_has ls 7 [(0, .ref ob), (1, .ref tn), (2, .int p1)] := hl
  refine lv_aload_n hx hb dX2_gladdestHold_0 rfl (lv_at hl 0 rfl) ?_
  refine lv_aload_n hx hb dX2_gladdestHold_1 rfl (lv_at hl 1 rfl) ?_
  refine lv_iload_n hx hb dX2_gladdestHold_2 rfl (lv_at hl 2 rfl) ?_
  obtain ⟨hPc, hDc, hFc⟩ := sub3 hP hD hS hA (ws' := [(ob, .inr (2, [.int obv0, .ref obb, .ref ob_2, .ref ob_3, .ref ob_4, .ref ob_5])), (obb, .inr (1, [.ref obb_0, .int obbv1, .int obbv2])), (obb_0, .inl (k 0, 8, .inl obbg0)), (ob_2, .inl (k 0, 32, .inl obg2)), (ob_3, .inl (k 0, 32, .inl obg3)), (tn, .inr (10, [.int tnv0, .int tnv1, .int tnv2, .ref tn_3, .ref tn_4, .ref tn_5, .ref tn_6, .int tnv7, .int tnv8, .ref tn_9, .ref tn_10, .int tnv11, .ref tn_12, .ref tn_13, .ref tn_14, .ref tn_15, .int tnv16, .ref tn_17, .ref tn_18, .ref tnt])), (tn_3, .inl (k 0, 10, .inl tng3)), (tn_4, .inl (k 0, 10, .inl tng4)), (tn_5, .inl (k 0, 10, .inl tng5)), (tn_9, .inl (k 0, 4, .inl tng9)), (tn_10, .inl (k 0, 4, .inl tng10))]) [0, 1, 2, 3, 4, 5, 6, 7, 8, 9, 10] (by decide +kernel) rfl
  refine va_callv (va_runV (C := RX2) (As := [.ref tn, .int p1]) (rest := []) ⟨hx, hb, hml, hown, hts⟩ (c_X2_learnGate l D k ob tn p1 obv0 obb ob_2 ob_3 ob_4 ob_5 obb_0 obbv1 obbv2 obbg0 obg2 obg3 tnv0 tnv1 tnv2 tn_3 tn_4 tn_5 tn_6 tnv7 tnv8 tn_9 tn_10 tnv11 tn_12 tn_13 tn_14 tn_15 tnv16 tn_17 tn_18 tnt tng3 tng4 tng5 tng9 tng10 s.heap.size (show 0 ≤ p1.toInt ∧ p1.toInt ≤ 3 from by omega) hp_obbg0_0 hp_obg2_0 hp_obg3_0 (show 0 ≤ tnv0.toInt ∧ tnv0.toInt ≤ 8 from by omega) (show 0 ≤ tnv2.toInt ∧ tnv2.toInt ≤ 10 from by omega) (show 0 ≤ tnv8.toInt ∧ tnv8.toInt ≤ 4 from by omega) (show 0 ≤ tnv11.toInt ∧ tnv11.toInt ≤ 6 from by omega) (show 0 ≤ tnv16.toInt ∧ tnv16.toInt ≤ 2 from by omega) hp_tng3_0 hp_tng4_0 hp_tng5_0 hp_tng9_0 hp_tng10_0) (cwV 2 hts (gV tw_4_193 tw_4_170 tw_4_171 tw_1_9 tw_4_172) rfl rfl rfl hdV_X2_learnGate ⟨Nat.le_of_ble_eq_true rfl, Nat.le_of_ble_eq_true rfl⟩) (cz_V hK hPc hDc hN (ci := 2) (q0 := 0) rfl rfl [.ref tn, .int p1]) rfl rfl hl.1 rfl (lv_room (Nat.le_of_ble_eq_true rfl)) dX2_gladdestHold_3 ⟨Nat.le_of_ble_eq_true rfl, Nat.le_of_ble_eq_true rfl⟩) hS (fun q _ h => hFc q h) hFc (fun uZ tZ H1 locs ht hvm hw hB hz1 hk1 hS => ?_)
  obtain ⟨o_2, o_3, o_4, o_5, o_6⟩ := uZ
  obtain ⟨hP1, hK1, hD1⟩ := hB
  rw [ht] at hP1
  obtain ⟨hP, hD⟩ := va_join (wr := [(tn_12, .inl (k 0, 6, .inl tng12)), (tn_13, .inl (k 0, 6, .inl tng13)), (tn_14, .inl (k 0, 6, .inl tng14))]) (w1 := [(ob, .inr (2, [.int obv0, .ref obb, .ref ob_2, .ref ob_3, .ref ob_4, .ref ob_5])), (obb, .inr (1, [.ref obb_0, .int o_2, .int o_3])), (obb_0, .inl (k 0, 8, .inl o_4)), (ob_2, .inl (k 0, 32, .inl o_5)), (ob_3, .inl (k 0, 32, .inl o_6)), (tn, .inr (10, [.int tnv0, .int tnv1, .int tnv2, .ref tn_3, .ref tn_4, .ref tn_5, .ref tn_6, .int tnv7, .int tnv8, .ref tn_9, .ref tn_10, .int tnv11, .ref tn_12, .ref tn_13, .ref tn_14, .ref tn_15, .int tnv16, .ref tn_17, .ref tn_18, .ref tnt])), (tn_3, .inl (k 0, 10, .inl tng3)), (tn_4, .inl (k 0, 10, .inl tng4)), (tn_5, .inl (k 0, 10, .inl tng5)), (tn_9, .inl (k 0, 4, .inl tng9)), (tn_10, .inl (k 0, 4, .inl tng10))]) hP hD [0, 1, 2, 3, 4, 5, 6, 7, 8, 9, 10] [11, 12, 13] rfl rfl (by decide +kernel) (by decide +kernel) hk1 hFc hP1 hD1
  clear hK1 hP1 hD1 hPc hDc hFc
  clear hk1 hz1 ht hvm
  have hP : va_P D vwCl [(tn_12, .inl (k 0, 6, .inl tng12)), (tn_13, .inl (k 0, 6, .inl tng13)), (tn_14, .inl (k 0, 6, .inl tng14)), (ob, .inr (2, [.int obv0, .ref obb, .ref ob_2, .ref ob_3, .ref ob_4, .ref ob_5])), (obb, .inr (1, [.ref obb_0, .int o_2, .int o_3])), (obb_0, .inl (k 0, 8, .inl o_4)), (ob_2, .inl (k 0, 32, .inl o_5)), (ob_3, .inl (k 0, 32, .inl o_6)), (tn, .inr (10, [.int tnv0, .int tnv1, .int tnv2, .ref tn_3, .ref tn_4, .ref tn_5, .ref tn_6, .int tnv7, .int tnv8, .ref tn_9, .ref tn_10, .int tnv11, .ref tn_12, .ref tn_13, .ref tn_14, .ref tn_15, .int tnv16, .ref tn_17, .ref tn_18, .ref tnt])), (tn_3, .inl (k 0, 10, .inl tng3)), (tn_4, .inl (k 0, 10, .inl tng4)), (tn_5, .inl (k 0, 10, .inl tng5)), (tn_9, .inl (k 0, 4, .inl tng9)), (tn_10, .inl (k 0, 4, .inl tng10))] H1 := hP
  have hD : va_D A [(tn_12, .inl (k 0, 6, .inl tng12)), (tn_13, .inl (k 0, 6, .inl tng13)), (tn_14, .inl (k 0, 6, .inl tng14)), (ob, .inr (2, [.int obv0, .ref obb, .ref ob_2, .ref ob_3, .ref ob_4, .ref ob_5])), (obb, .inr (1, [.ref obb_0, .int o_2, .int o_3])), (obb_0, .inl (k 0, 8, .inl o_4)), (ob_2, .inl (k 0, 32, .inl o_5)), (ob_3, .inl (k 0, 32, .inl o_6)), (tn, .inr (10, [.int tnv0, .int tnv1, .int tnv2, .ref tn_3, .ref tn_4, .ref tn_5, .ref tn_6, .int tnv7, .int tnv8, .ref tn_9, .ref tn_10, .int tnv11, .ref tn_12, .ref tn_13, .ref tn_14, .ref tn_15, .int tnv16, .ref tn_17, .ref tn_18, .ref tnt])), (tn_3, .inl (k 0, 10, .inl tng3)), (tn_4, .inl (k 0, 10, .inl tng4)), (tn_5, .inl (k 0, 10, .inl tng5)), (tn_9, .inl (k 0, 4, .inl tng9)), (tn_10, .inl (k 0, 4, .inl tng10))] := hD
  generalize H1 = H at hP hS ⊢
  have hw_7 : (PR 8 1 0 0 1000000 o_4) ∧ (PR 32 1 0 0 1000000 o_5) ∧ (PR 32 1 0 0 1000000 o_6) := hw
  obtain ⟨hw_8, hw_9, hw_10⟩ := hw_7
  clear hw
  refine lv_iconst (v := 0) hx hb dX2_gladdestHold_6 (by decide) ?_
  refine lv_istore_n (lv' := [(3, .int 0), (0, .ref ob), (1, .ref tn), (2, .int p1)]) hx hb dX2_gladdestHold_7 rfl hl (by decide) rfl (fun ls hl => ?_)
  refine lv_iconst (v := (-1)) hx hb dX2_gladdestHold_8 (by decide) ?_
  refine lv_istore (lv' := [(4, .int (-1)), (3, .int 0), (0, .ref ob), (1, .ref tn), (2, .int p1)]) hx hb dX2_gladdestHold_9 hl (by decide) rfl (fun ls hl => ?_)
  refine lv_iconst (v := 0) hx hb dX2_gladdestHold_11 (by decide) ?_
  refine lv_istore (lv' := [(5, .int 0), (4, .int (-1)), (3, .int 0), (0, .ref ob), (1, .ref tn), (2, .int p1)]) hx hb dX2_gladdestHold_12 hl (by decide) rfl (fun ls hl => ?_)
  refine loop_r (Wg := fun H locs ls => W p l e _ s m _ below meth c H locs _ _ _ (F0 m 14 ls [])) (fun n9 H locs ls => ∃ (L14l3 : Int32) (L14l4 : Int32) (L14l5 : Int32), n9 = (100 - L14l5.toInt).toNat ∧ (0 ≤ L14l3.toInt ∧ L14l3.toInt ≤ 99) ∧ ((-1) ≤ L14l4.toInt ∧ L14l4.toInt ≤ 2147483647) ∧ (0 ≤ L14l5.toInt ∧ L14l5.toInt ≤ 100) ∧ va_P D vwCl [(tn_12, .inl (k 0, 6, .inl tng12)), (tn_13, .inl (k 0, 6, .inl tng13)), (tn_14, .inl (k 0, 6, .inl tng14)), (ob, .inr (2, [.int obv0, .ref obb, .ref ob_2, .ref ob_3, .ref ob_4, .ref ob_5])), (obb, .inr (1, [.ref obb_0, .int o_2, .int o_3])), (obb_0, .inl (k 0, 8, .inl o_4)), (ob_2, .inl (k 0, 32, .inl o_5)), (ob_3, .inl (k 0, 32, .inl o_6)), (tn, .inr (10, [.int tnv0, .int tnv1, .int tnv2, .ref tn_3, .ref tn_4, .ref tn_5, .ref tn_6, .int tnv7, .int tnv8, .ref tn_9, .ref tn_10, .int tnv11, .ref tn_12, .ref tn_13, .ref tn_14, .ref tn_15, .int tnv16, .ref tn_17, .ref tn_18, .ref tnt])), (tn_3, .inl (k 0, 10, .inl tng3)), (tn_4, .inl (k 0, 10, .inl tng4)), (tn_5, .inl (k 0, 10, .inl tng5)), (tn_9, .inl (k 0, 4, .inl tng9)), (tn_10, .inl (k 0, 4, .inl tng10))] H ∧ va_D A [(tn_12, .inl (k 0, 6, .inl tng12)), (tn_13, .inl (k 0, 6, .inl tng13)), (tn_14, .inl (k 0, 6, .inl tng14)), (ob, .inr (2, [.int obv0, .ref obb, .ref ob_2, .ref ob_3, .ref ob_4, .ref ob_5])), (obb, .inr (1, [.ref obb_0, .int o_2, .int o_3])), (obb_0, .inl (k 0, 8, .inl o_4)), (ob_2, .inl (k 0, 32, .inl o_5)), (ob_3, .inl (k 0, 32, .inl o_6)), (tn, .inr (10, [.int tnv0, .int tnv1, .int tnv2, .ref tn_3, .ref tn_4, .ref tn_5, .ref tn_6, .int tnv7, .int tnv8, .ref tn_9, .ref tn_10, .int tnv11, .ref tn_12, .ref tn_13, .ref tn_14, .ref tn_15, .int tnv16, .ref tn_17, .ref tn_18, .ref tnt])), (tn_3, .inl (k 0, 10, .inl tng3)), (tn_4, .inl (k 0, 10, .inl tng4)), (tn_5, .inl (k 0, 10, .inl tng5)), (tn_9, .inl (k 0, 4, .inl tng9)), (tn_10, .inl (k 0, 4, .inl tng10))] ∧ va_S A s.heap H locs ∧ lv_has ls 7 [(0, .ref ob), (1, .ref tn), (2, .int p1), (3, .int L14l3), (4, .int L14l4), (5, .int L14l5)]) (fun n9 H locs ls hI ih_11 => ?_) _ _ _ _ ⟨0, (-1), 0, rfl, (show 0 ≤ 0 ∧ 0 ≤ 99 from by omega), (show (-1) ≤ (-1) ∧ (-1) ≤ 2147483647 from by omega), (show 0 ≤ 0 ∧ 0 ≤ 100 from by omega), hP.sub (ws' := [(tn_12, .inl (k 0, 6, .inl tng12)), (tn_13, .inl (k 0, 6, .inl tng13)), (tn_14, .inl (k 0, 6, .inl tng14)), (ob, .inr (2, [.int obv0, .ref obb, .ref ob_2, .ref ob_3, .ref ob_4, .ref ob_5])), (obb, .inr (1, [.ref obb_0, .int o_2, .int o_3])), (obb_0, .inl (k 0, 8, .inl o_4)), (ob_2, .inl (k 0, 32, .inl o_5)), (ob_3, .inl (k 0, 32, .inl o_6)), (tn, .inr (10, [.int tnv0, .int tnv1, .int tnv2, .ref tn_3, .ref tn_4, .ref tn_5, .ref tn_6, .int tnv7, .int tnv8, .ref tn_9, .ref tn_10, .int tnv11, .ref tn_12, .ref tn_13, .ref tn_14, .ref tn_15, .int tnv16, .ref tn_17, .ref tn_18, .ref tnt])), (tn_3, .inl (k 0, 10, .inl tng3)), (tn_4, .inl (k 0, 10, .inl tng4)), (tn_5, .inl (k 0, 10, .inl tng5)), (tn_9, .inl (k 0, 4, .inl tng9)), (tn_10, .inl (k 0, 4, .inl tng10))]) [0, 1, 2, 3, 4, 5, 6, 7, 8, 9, 10, 11, 12, 13] rfl, hD.sub (ws' := [(tn_12, .inl (k 0, 6, .inl tng12)), (tn_13, .inl (k 0, 6, .inl tng13)), (tn_14, .inl (k 0, 6, .inl tng14)), (ob, .inr (2, [.int obv0, .ref obb, .ref ob_2, .ref ob_3, .ref ob_4, .ref ob_5])), (obb, .inr (1, [.ref obb_0, .int o_2, .int o_3])), (obb_0, .inl (k 0, 8, .inl o_4)), (ob_2, .inl (k 0, 32, .inl o_5)), (ob_3, .inl (k 0, 32, .inl o_6)), (tn, .inr (10, [.int tnv0, .int tnv1, .int tnv2, .ref tn_3, .ref tn_4, .ref tn_5, .ref tn_6, .int tnv7, .int tnv8, .ref tn_9, .ref tn_10, .int tnv11, .ref tn_12, .ref tn_13, .ref tn_14, .ref tn_15, .int tnv16, .ref tn_17, .ref tn_18, .ref tnt])), (tn_3, .inl (k 0, 10, .inl tng3)), (tn_4, .inl (k 0, 10, .inl tng4)), (tn_5, .inl (k 0, 10, .inl tng5)), (tn_9, .inl (k 0, 4, .inl tng9)), (tn_10, .inl (k 0, 4, .inl tng10))]) [0, 1, 2, 3, 4, 5, 6, 7, 8, 9, 10, 11, 12, 13] (by decide +kernel) rfl, hS, lv_sub hl [3, 4, 5, 2, 1, 0] rfl⟩
  clear hP hD hS hl
  obtain ⟨L14l3, L14l4, L14l5, en_12, zL14l3, zL14l4, zL14l5, hP, hD, hS, hl⟩ := hI
  refine lv_iload hx hb dX2_gladdestHold_14 (lv_at hl 5 rfl) ?_
  refine lv_bipush (v := 100) hx hb dX2_gladdestHold_16 (by decide) ?_
  refine lv_icmp_ge (tgt := 51) hx hb dX2_gladdestHold_18 (by decide) (fun h_13 => ?_) (fun h_13 => ?_)
  · skip
    have zh_13 : 100 ≤ L14l5.toInt := z_le h_13
    refine lv_iload_n hx hb dX2_gladdestHold_51 rfl (lv_at hl 3 rfl) ?_
    obtain ⟨hP9, hD9⟩ := sub2 hP hD (ws' := [(ob, .inr (2, [.int obv0, .ref obb, .ref ob_2, .ref ob_3, .ref ob_4, .ref ob_5])), (obb, .inr (1, [.ref obb_0, .int o_2, .int o_3])), (obb_0, .inl (k 0, 8, .inl o_4)), (ob_2, .inl (k 0, 32, .inl o_5)), (ob_3, .inl (k 0, 32, .inl o_6)), (tn, .inr (10, [.int tnv0, .int tnv1, .int tnv2, .ref tn_3, .ref tn_4, .ref tn_5, .ref tn_6, .int tnv7, .int tnv8, .ref tn_9, .ref tn_10, .int tnv11, .ref tn_12, .ref tn_13, .ref tn_14, .ref tn_15, .int tnv16, .ref tn_17, .ref tn_18, .ref tnt])), (tn_3, .inl (k 0, 10, .inl tng3)), (tn_4, .inl (k 0, 10, .inl tng4)), (tn_5, .inl (k 0, 10, .inl tng5)), (tn_9, .inl (k 0, 4, .inl tng9)), (tn_10, .inl (k 0, 4, .inl tng10)), (tn_12, .inl (k 0, 6, .inl tng12)), (tn_13, .inl (k 0, 6, .inl tng13)), (tn_14, .inl (k 0, 6, .inl tng14))]) [3, 4, 5, 6, 7, 8, 9, 10, 11, 12, 13, 0, 1, 2] (by decide +kernel) rfl
    exact W.iret (v := L14l3) hx hb hr (fun tZ ht hW => ⟨⟨L14l3, (o_2, o_3, o_4, o_5, o_6), rfl, ⟨(show 0 ≤ L14l3.toInt ∧ L14l3.toInt ≤ 99 from by omega), hw_8, hw_9, hw_10⟩, by rw [ht]; exact hP9, va_K.moved hW.alike hK, hD9⟩, hS.F ht⟩) hS.2.2 dX2_gladdestHold_52
  · skip
    have zh_13 : L14l5.toInt < 100 := z_nle h_13
    refine lv_aload_n hx hb dX2_gladdestHold_21 rfl (lv_at hl 0 rfl) ?_
    refine lv_aload_n hx hb dX2_gladdestHold_22 rfl (lv_at hl 1 rfl) ?_
    refine lv_iload_n hx hb dX2_gladdestHold_23 rfl (lv_at hl 2 rfl) ?_
    refine lv_iload hx hb dX2_gladdestHold_24 (lv_at hl 5 rfl) ?_
    obtain ⟨hPc, hDc, hFc⟩ := sub3 hP hD hS hA (ws' := [(ob, .inr (2, [.int obv0, .ref obb, .ref ob_2, .ref ob_3, .ref ob_4, .ref ob_5])), (ob_2, .inl (k 0, 32, .inl o_5)), (ob_3, .inl (k 0, 32, .inl o_6)), (tn, .inr (10, [.int tnv0, .int tnv1, .int tnv2, .ref tn_3, .ref tn_4, .ref tn_5, .ref tn_6, .int tnv7, .int tnv8, .ref tn_9, .ref tn_10, .int tnv11, .ref tn_12, .ref tn_13, .ref tn_14, .ref tn_15, .int tnv16, .ref tn_17, .ref tn_18, .ref tnt])), (tn_12, .inl (k 0, 6, .inl tng12)), (tn_13, .inl (k 0, 6, .inl tng13)), (tn_14, .inl (k 0, 6, .inl tng14))]) [3, 6, 7, 8, 0, 1, 2] (by decide +kernel) rfl
    refine va_calli (va_runV (C := RX2) (As := [.ref tn, .int p1, .int L14l5]) (rest := []) ⟨hx, hb, hml, hown, hts⟩ (c_X2_gladWith l D k ob tn p1 L14l5 obv0 obb ob_2 ob_3 ob_4 ob_5 o_5 o_6 tnv0 tnv1 tnv2 tn_3 tn_4 tn_5 tn_6 tnv7 tnv8 tn_9 tn_10 tnv11 tn_12 tn_13 tn_14 tn_15 tnv16 tn_17 tn_18 tnt tng12 tng13 tng14 H.size (show 0 ≤ p1.toInt ∧ p1.toInt ≤ 3 from by omega) (show 0 ≤ L14l5.toInt ∧ L14l5.toInt ≤ 99 from by omega) hw_9 hw_10 (show 0 ≤ tnv0.toInt ∧ tnv0.toInt ≤ 8 from by omega) (show 0 ≤ tnv2.toInt ∧ tnv2.toInt ≤ 10 from by omega) (show 0 ≤ tnv8.toInt ∧ tnv8.toInt ≤ 4 from by omega) (show 0 ≤ tnv11.toInt ∧ tnv11.toInt ≤ 6 from by omega) (show 0 ≤ tnv16.toInt ∧ tnv16.toInt ≤ 2 from by omega) hp_tng12_0 hp_tng13_0 hp_tng14_0) (cwV 3 hts (gV tw_4_194 tw_4_195 tw_4_196 tw_1_9 tw_4_197) rfl rfl rfl hdV_X2_gladWith ⟨Nat.le_of_ble_eq_true rfl, Nat.le_of_ble_eq_true rfl⟩) (cz_V hK hPc hDc hN (ci := 2) (q0 := 0) rfl rfl [.ref tn, .int p1, .int L14l5]) rfl rfl hl.1 rfl (lv_room (Nat.le_of_ble_eq_true rfl)) dX2_gladdestHold_26 ⟨Nat.le_of_ble_eq_true rfl, Nat.le_of_ble_eq_true rfl⟩) hS (fun q _ h => hFc q h) hFc (fun r_14 uZ tZ H1 locs ht hvm hw hB hz1 hk1 hS => ?_)
    obtain ⟨hP1, hK1, hD1⟩ := hB
    rw [ht] at hP1
    obtain ⟨hP, hD⟩ := va_join (wr := [(obb, .inr (1, [.ref obb_0, .int o_2, .int o_3])), (obb_0, .inl (k 0, 8, .inl o_4)), (tn_3, .inl (k 0, 10, .inl tng3)), (tn_4, .inl (k 0, 10, .inl tng4)), (tn_5, .inl (k 0, 10, .inl tng5)), (tn_9, .inl (k 0, 4, .inl tng9)), (tn_10, .inl (k 0, 4, .inl tng10))]) (w1 := [(ob, .inr (2, [.int obv0, .ref obb, .ref ob_2, .ref ob_3, .ref ob_4, .ref ob_5])), (ob_2, .inl (k 0, 32, .inl o_5)), (ob_3, .inl (k 0, 32, .inl o_6)), (tn, .inr (10, [.int tnv0, .int tnv1, .int tnv2, .ref tn_3, .ref tn_4, .ref tn_5, .ref tn_6, .int tnv7, .int tnv8, .ref tn_9, .ref tn_10, .int tnv11, .ref tn_12, .ref tn_13, .ref tn_14, .ref tn_15, .int tnv16, .ref tn_17, .ref tn_18, .ref tnt])), (tn_12, .inl (k 0, 6, .inl tng12)), (tn_13, .inl (k 0, 6, .inl tng13)), (tn_14, .inl (k 0, 6, .inl tng14))]) hP hD [3, 6, 7, 8, 0, 1, 2] [4, 5, 9, 10, 11, 12, 13] rfl rfl (by decide +kernel) (by decide +kernel) hk1 hFc hP1 hD1
    clear hK1 hP1 hD1 hPc hDc hFc
    clear hk1 hz1 ht hvm
    have hP : va_P D vwCl [(obb, .inr (1, [.ref obb_0, .int o_2, .int o_3])), (obb_0, .inl (k 0, 8, .inl o_4)), (tn_3, .inl (k 0, 10, .inl tng3)), (tn_4, .inl (k 0, 10, .inl tng4)), (tn_5, .inl (k 0, 10, .inl tng5)), (tn_9, .inl (k 0, 4, .inl tng9)), (tn_10, .inl (k 0, 4, .inl tng10)), (ob, .inr (2, [.int obv0, .ref obb, .ref ob_2, .ref ob_3, .ref ob_4, .ref ob_5])), (ob_2, .inl (k 0, 32, .inl o_5)), (ob_3, .inl (k 0, 32, .inl o_6)), (tn, .inr (10, [.int tnv0, .int tnv1, .int tnv2, .ref tn_3, .ref tn_4, .ref tn_5, .ref tn_6, .int tnv7, .int tnv8, .ref tn_9, .ref tn_10, .int tnv11, .ref tn_12, .ref tn_13, .ref tn_14, .ref tn_15, .int tnv16, .ref tn_17, .ref tn_18, .ref tnt])), (tn_12, .inl (k 0, 6, .inl tng12)), (tn_13, .inl (k 0, 6, .inl tng13)), (tn_14, .inl (k 0, 6, .inl tng14))] H1 := hP
    have hD : va_D A [(obb, .inr (1, [.ref obb_0, .int o_2, .int o_3])), (obb_0, .inl (k 0, 8, .inl o_4)), (tn_3, .inl (k 0, 10, .inl tng3)), (tn_4, .inl (k 0, 10, .inl tng4)), (tn_5, .inl (k 0, 10, .inl tng5)), (tn_9, .inl (k 0, 4, .inl tng9)), (tn_10, .inl (k 0, 4, .inl tng10)), (ob, .inr (2, [.int obv0, .ref obb, .ref ob_2, .ref ob_3, .ref ob_4, .ref ob_5])), (ob_2, .inl (k 0, 32, .inl o_5)), (ob_3, .inl (k 0, 32, .inl o_6)), (tn, .inr (10, [.int tnv0, .int tnv1, .int tnv2, .ref tn_3, .ref tn_4, .ref tn_5, .ref tn_6, .int tnv7, .int tnv8, .ref tn_9, .ref tn_10, .int tnv11, .ref tn_12, .ref tn_13, .ref tn_14, .ref tn_15, .int tnv16, .ref tn_17, .ref tn_18, .ref tnt])), (tn_12, .inl (k 0, 6, .inl tng12)), (tn_13, .inl (k 0, 6, .inl tng13)), (tn_14, .inl (k 0, 6, .inl tng14))] := hD
    generalize H1 = H at hP hS ⊢
    clear hw
    refine lv_istore (lv' := [(6, .int r_14), (0, .ref ob), (1, .ref tn), (2, .int p1), (3, .int L14l3), (4, .int L14l4), (5, .int L14l5)]) hx hb dX2_gladdestHold_29 hl (by decide) rfl (fun ls hl => ?_)
    refine lv_iload hx hb dX2_gladdestHold_31 (lv_at hl 0 rfl) ?_
    refine lv_iload hx hb dX2_gladdestHold_33 (lv_at hl 5 rfl) ?_
    refine lv_icmp_le (tgt := 45) hx hb dX2_gladdestHold_35 (by decide) (fun h_16 => ?_) (fun h_16 => ?_)
    · skip
      have zh_16 : r_14.toInt ≤ L14l4.toInt := z_le h_16
      obtain ⟨x_17, ex_17⟩ : ∃ y : Int32, y = L14l5 + 1 := ⟨_, rfl⟩
      have zx_17 : x_17.toInt = L14l5.toInt + 1 := by rw [ex_17]; exact z_add rfl rfl (by omega) (by omega)
      refine lv_iinc (v := x_17) (lv' := [(5, .int x_17), (6, .int r_14), (0, .ref ob), (1, .ref tn), (2, .int p1), (3, .int L14l3), (4, .int L14l4)]) hx hb dX2_gladdestHold_45 hl (k := 6) rfl (by rw [ex_17]; rfl) (by decide) rfl (fun ls hl => ?_)
      refine lv_goto (tgt := 14) hx hb dX2_gladdestHold_48 (by decide) ?_
      exact ih_11 _ _ _ _ (by omega) ⟨L14l3, L14l4, x_17, rfl, (show 0 ≤ L14l3.toInt ∧ L14l3.toInt ≤ 99 from by omega), (show (-1) ≤ L14l4.toInt ∧ L14l4.toInt ≤ 2147483647 from by have := z_rng L14l4; omega), (show 0 ≤ x_17.toInt ∧ x_17.toInt ≤ 100 from by omega), hP.sub (ws' := [(tn_12, .inl (k 0, 6, .inl tng12)), (tn_13, .inl (k 0, 6, .inl tng13)), (tn_14, .inl (k 0, 6, .inl tng14)), (ob, .inr (2, [.int obv0, .ref obb, .ref ob_2, .ref ob_3, .ref ob_4, .ref ob_5])), (obb, .inr (1, [.ref obb_0, .int o_2, .int o_3])), (obb_0, .inl (k 0, 8, .inl o_4)), (ob_2, .inl (k 0, 32, .inl o_5)), (ob_3, .inl (k 0, 32, .inl o_6)), (tn, .inr (10, [.int tnv0, .int tnv1, .int tnv2, .ref tn_3, .ref tn_4, .ref tn_5, .ref tn_6, .int tnv7, .int tnv8, .ref tn_9, .ref tn_10, .int tnv11, .ref tn_12, .ref tn_13, .ref tn_14, .ref tn_15, .int tnv16, .ref tn_17, .ref tn_18, .ref tnt])), (tn_3, .inl (k 0, 10, .inl tng3)), (tn_4, .inl (k 0, 10, .inl tng4)), (tn_5, .inl (k 0, 10, .inl tng5)), (tn_9, .inl (k 0, 4, .inl tng9)), (tn_10, .inl (k 0, 4, .inl tng10))]) [11, 12, 13, 7, 0, 1, 8, 9, 10, 2, 3, 4, 5, 6] rfl, hD.sub (ws' := [(tn_12, .inl (k 0, 6, .inl tng12)), (tn_13, .inl (k 0, 6, .inl tng13)), (tn_14, .inl (k 0, 6, .inl tng14)), (ob, .inr (2, [.int obv0, .ref obb, .ref ob_2, .ref ob_3, .ref ob_4, .ref ob_5])), (obb, .inr (1, [.ref obb_0, .int o_2, .int o_3])), (obb_0, .inl (k 0, 8, .inl o_4)), (ob_2, .inl (k 0, 32, .inl o_5)), (ob_3, .inl (k 0, 32, .inl o_6)), (tn, .inr (10, [.int tnv0, .int tnv1, .int tnv2, .ref tn_3, .ref tn_4, .ref tn_5, .ref tn_6, .int tnv7, .int tnv8, .ref tn_9, .ref tn_10, .int tnv11, .ref tn_12, .ref tn_13, .ref tn_14, .ref tn_15, .int tnv16, .ref tn_17, .ref tn_18, .ref tnt])), (tn_3, .inl (k 0, 10, .inl tng3)), (tn_4, .inl (k 0, 10, .inl tng4)), (tn_5, .inl (k 0, 10, .inl tng5)), (tn_9, .inl (k 0, 4, .inl tng9)), (tn_10, .inl (k 0, 4, .inl tng10))]) [11, 12, 13, 7, 0, 1, 8, 9, 10, 2, 3, 4, 5, 6] (by decide +kernel) rfl, hS, lv_sub hl [2, 3, 4, 5, 6, 0] rfl⟩
    · skip
      have zh_16 : L14l4.toInt < r_14.toInt := z_nle h_16
      refine lv_iload hx hb dX2_gladdestHold_38 (lv_at hl 0 rfl) ?_
      refine lv_istore (lv' := [(4, .int r_14), (6, .int r_14), (0, .ref ob), (1, .ref tn), (2, .int p1), (3, .int L14l3), (5, .int L14l5)]) hx hb dX2_gladdestHold_40 hl (by decide) rfl (fun ls hl => ?_)
      refine lv_iload hx hb dX2_gladdestHold_42 (lv_at hl 6 rfl) ?_
      refine lv_istore_n (lv' := [(3, .int L14l5), (4, .int r_14), (6, .int r_14), (0, .ref ob), (1, .ref tn), (2, .int p1), (5, .int L14l5)]) hx hb dX2_gladdestHold_44 rfl hl (by decide) rfl (fun ls hl => ?_)
      obtain ⟨x_18, ex_18⟩ : ∃ y : Int32, y = L14l5 + 1 := ⟨_, rfl⟩
      have zx_18 : x_18.toInt = L14l5.toInt + 1 := by rw [ex_18]; exact z_add rfl rfl (by omega) (by omega)
      refine lv_iinc (v := x_18) (lv' := [(5, .int x_18), (3, .int L14l5), (4, .int r_14), (6, .int r_14), (0, .ref ob), (1, .ref tn), (2, .int p1)]) hx hb dX2_gladdestHold_45 hl (k := 6) rfl (by rw [ex_18]; rfl) (by decide) rfl (fun ls hl => ?_)
      refine lv_goto (tgt := 14) hx hb dX2_gladdestHold_48 (by decide) ?_
      exact ih_11 _ _ _ _ (by omega) ⟨L14l5, r_14, x_18, rfl, (show 0 ≤ L14l5.toInt ∧ L14l5.toInt ≤ 99 from by omega), (show (-1) ≤ r_14.toInt ∧ r_14.toInt ≤ 2147483647 from by have := z_rng r_14; omega), (show 0 ≤ x_18.toInt ∧ x_18.toInt ≤ 100 from by omega), hP.sub (ws' := [(tn_12, .inl (k 0, 6, .inl tng12)), (tn_13, .inl (k 0, 6, .inl tng13)), (tn_14, .inl (k 0, 6, .inl tng14)), (ob, .inr (2, [.int obv0, .ref obb, .ref ob_2, .ref ob_3, .ref ob_4, .ref ob_5])), (obb, .inr (1, [.ref obb_0, .int o_2, .int o_3])), (obb_0, .inl (k 0, 8, .inl o_4)), (ob_2, .inl (k 0, 32, .inl o_5)), (ob_3, .inl (k 0, 32, .inl o_6)), (tn, .inr (10, [.int tnv0, .int tnv1, .int tnv2, .ref tn_3, .ref tn_4, .ref tn_5, .ref tn_6, .int tnv7, .int tnv8, .ref tn_9, .ref tn_10, .int tnv11, .ref tn_12, .ref tn_13, .ref tn_14, .ref tn_15, .int tnv16, .ref tn_17, .ref tn_18, .ref tnt])), (tn_3, .inl (k 0, 10, .inl tng3)), (tn_4, .inl (k 0, 10, .inl tng4)), (tn_5, .inl (k 0, 10, .inl tng5)), (tn_9, .inl (k 0, 4, .inl tng9)), (tn_10, .inl (k 0, 4, .inl tng10))]) [11, 12, 13, 7, 0, 1, 8, 9, 10, 2, 3, 4, 5, 6] rfl, hD.sub (ws' := [(tn_12, .inl (k 0, 6, .inl tng12)), (tn_13, .inl (k 0, 6, .inl tng13)), (tn_14, .inl (k 0, 6, .inl tng14)), (ob, .inr (2, [.int obv0, .ref obb, .ref ob_2, .ref ob_3, .ref ob_4, .ref ob_5])), (obb, .inr (1, [.ref obb_0, .int o_2, .int o_3])), (obb_0, .inl (k 0, 8, .inl o_4)), (ob_2, .inl (k 0, 32, .inl o_5)), (ob_3, .inl (k 0, 32, .inl o_6)), (tn, .inr (10, [.int tnv0, .int tnv1, .int tnv2, .ref tn_3, .ref tn_4, .ref tn_5, .ref tn_6, .int tnv7, .int tnv8, .ref tn_9, .ref tn_10, .int tnv11, .ref tn_12, .ref tn_13, .ref tn_14, .ref tn_15, .int tnv16, .ref tn_17, .ref tn_18, .ref tnt])), (tn_3, .inl (k 0, 10, .inl tng3)), (tn_4, .inl (k 0, 10, .inl tng4)), (tn_5, .inl (k 0, 10, .inl tng5)), (tn_9, .inl (k 0, 4, .inl tng9)), (tn_10, .inl (k 0, 4, .inl tng10))]) [11, 12, 13, 7, 0, 1, 8, 9, 10, 2, 3, 4, 5, 6] (by decide +kernel) rfl, hS, lv_sub hl [4, 5, 6, 1, 2, 0] rfl⟩
set_option maxHeartbeats 4000000 in
set_option maxRecDepth 100000 in
theorem c_X8_isSlot (l : Launch) (D : va_G) (k : Nat → ClassId) (p0 : Int32) (sz : Nat) : Met l yX8_isSlot (ww yX8_isSlot cX8_isSlot 1 (some .boolean)) ({ frames := 0, cells := 0, slots := 0, locals := 0 }) (Pre0 D k [] sz [.int p0]) (va_Qi (fun (r : Int32) (_ : Unit) => (0 ≤ r.toInt ∧ r.toInt ≤ 1) ∧ ((r.toInt = 1 ∧ 0 ≤ p0.toInt ∧ p0.toInt ≤ 3) ∨ (r.toInt = 0 ∧ (p0.toInt < 0 ∨ 3 < p0.toInt)))) (fun (_ : Unit) tZ => Bw D k (va_A [] sz) [] tZ) (va_A [] sz)) 0 0 (va_A [] sz) := by
  refine Met.ofW (cc := cX8_isSlot) (maxL := 1) (ret := (some .boolean)) (by decide +kernel) rfl ?_
  intro p e s m args below meth c s₁ B hml hv
  obtain ⟨rfl, hsz, hP, hK, hD0, hN⟩ := hv
  have hx := B.exec
  have hb := B.bytes
  have hr := B.returns
  have hts : ∀ w ∈ TT, w.before _ s = true := fun w h => atoms_spec (ws := ww yX8_isSlot cX8_isSlot 1 (some .boolean)) B.pre w (List.mem_cons_of_mem _ h)
  have hown : s.vm.findClass RX8 = some m.cls := findClass_of_methodNamed B.named
  have hlocks := B.notSynchronized
  subst hsz
  have hD := hD0.self (sz := s.heap.size)
  generalize hAe : va_A [] s.heap.size = A at hD ⊢
  have hA : ∀ q : Nat, s.heap.size ≤ q → A q := fun q h => by rw [← hAe]; exact Or.inr h
  have hS : va_S A s.heap s.heap [] := va_S.rf
  have hl := lv_entry ([.int p0]) (n := 1) (Nat.le_of_ble_eq_true rfl)
  rw [lg_entry_eq]
  generalize (lg_sl ([.int p0]) ++ List.replicate (1 - (lg_sl ([.int p0])).length) Slot.unset).toArray = ls at hl ⊢
  have hl : lv_has ls 1 [(0, .int p0)] := hl
  refine lv_iload_n hx hb dX8_isSlot_0 rfl (lv_at hl 0 rfl) ?_
  refine lv_if_lt (tgt := 13) hx hb dX8_isSlot_1 (by decide) (fun h_1 => ?_) (fun h_1 => ?_)
  · skip
    have zh_1 : p0.toInt < 0 := z_lt h_1
    refine lv_iconst (v := 0) hx hb dX8_isSlot_13 (by decide) ?_
    obtain ⟨hP9, hD9⟩ := sub2 hP hD (ws' := []) [] (by decide +kernel) rfl
    exact W.zret (v := 0) hx hb hr (by decide) (fun tZ ht hW => ⟨⟨0, (), rfl, ⟨(show 0 ≤ 0 ∧ 0 ≤ 1 from by omega), (show (0 = 1 ∧ 0 ≤ p0.toInt ∧ p0.toInt ≤ 3) ∨ (0 = 0 ∧ (p0.toInt < 0 ∨ 3 < p0.toInt)) from by omega)⟩, by rw [ht]; exact hP9, va_K.moved hW.alike hK, hD9⟩, hS.F ht⟩) hS.2.2 dX8_isSlot_14
  · skip
    have zh_1 : 0 ≤ p0.toInt := z_nlt h_1
    refine lv_iload_n hx hb dX8_isSlot_4 rfl (lv_at hl 0 rfl) ?_
    refine lv_iconst (v := 4) hx hb dX8_isSlot_5 (by decide) ?_
    refine lv_icmp_ge (tgt := 13) hx hb dX8_isSlot_6 (by decide) (fun h_2 => ?_) (fun h_2 => ?_)
    · skip
      have zh_2 : 4 ≤ p0.toInt := z_le h_2
      refine lv_iconst (v := 0) hx hb dX8_isSlot_13 (by decide) ?_
      obtain ⟨hP9, hD9⟩ := sub2 hP hD (ws' := []) [] (by decide +kernel) rfl
      exact W.zret (v := 0) hx hb hr (by decide) (fun tZ ht hW => ⟨⟨0, (), rfl, ⟨(show 0 ≤ 0 ∧ 0 ≤ 1 from by omega), (show (0 = 1 ∧ 0 ≤ p0.toInt ∧ p0.toInt ≤ 3) ∨ (0 = 0 ∧ (p0.toInt < 0 ∨ 3 < p0.toInt)) from by omega)⟩, by rw [ht]; exact hP9, va_K.moved hW.alike hK, hD9⟩, hS.F ht⟩) hS.2.2 dX8_isSlot_14
    · skip
      have zh_2 : p0.toInt < 4 := z_nle h_2
      refine lv_iconst (v := 1) hx hb dX8_isSlot_9 (by decide) ?_
      refine lv_goto (tgt := 14) hx hb dX8_isSlot_10 (by decide) ?_
      obtain ⟨hP9, hD9⟩ := sub2 hP hD (ws' := []) [] (by decide +kernel) rfl
      exact W.zret (v := 1) hx hb hr (by decide) (fun tZ ht hW => ⟨⟨1, (), rfl, ⟨(show 0 ≤ 1 ∧ 1 ≤ 1 from by omega), (show (1 = 1 ∧ 0 ≤ p0.toInt ∧ p0.toInt ≤ 3) ∨ (1 = 0 ∧ (p0.toInt < 0 ∨ 3 < p0.toInt)) from by omega)⟩, by rw [ht]; exact hP9, va_K.moved hW.alike hK, hD9⟩, hS.F ht⟩) hS.2.2 dX8_isSlot_14
set_option maxHeartbeats 4000000 in
set_option maxRecDepth 100000 in
theorem c_X8_length (l : Launch) (D : va_G) (k : Nat → ClassId) (ob : Nat) (p0 : Int32) (ob_0 : Nat) (ob_1 : Nat) (ob_2 : Nat) (obv3 : Int32) (obg1 : Nat → Int32) (sz : Nat) (h_p0 : 0 ≤ p0.toInt ∧ p0.toInt ≤ 3) (hp_obg1_0 : PR 4 1 0 0 60 obg1) : Met l yX8_length (ww yX8_length cX8_length 2 (some .int)) ({ frames := 1, cells := 0, slots := 0, locals := 20 }) (Pre0 D k [(ob, .inr (8, [.ref ob_0, .ref ob_1, .ref ob_2, .int obv3])), (ob_1, .inl (k 0, 4, .inl obg1))] sz [.ref ob, .int p0]) (va_Qi (fun (r : Int32) (_ : Unit) => (0 ≤ r.toInt ∧ r.toInt ≤ 60) ∧ (r = obg1 p0.toNatClampNeg)) (fun (_ : Unit) tZ => Bw D k (va_A [(ob, .inr (8, [.ref ob_0, .ref ob_1, .ref ob_2, .int obv3])), (ob_1, .inl (k 0, 4, .inl obg1))] sz) [(ob, .inr (8, [.ref ob_0, .ref ob_1, .ref ob_2, .int obv3])), (ob_1, .inl (k 0, 4, .inl obg1))] tZ) (va_A [(ob, .inr (8, [.ref ob_0, .ref ob_1, .ref ob_2, .int obv3])), (ob_1, .inl (k 0, 4, .inl obg1))] sz)) 0 0 (va_A [(ob, .inr (8, [.ref ob_0, .ref ob_1, .ref ob_2, .int obv3])), (ob_1, .inl (k 0, 4, .inl obg1))] sz) := by
  refine Met.ofW (cc := cX8_length) (maxL := 2) (ret := (some .int)) (by decide +kernel) rfl ?_
  intro p e s m args below meth c s₁ B hml hv
  obtain ⟨rfl, hsz, hP, hK, hD0, hN⟩ := hv
  have hx := B.exec
  have hb := B.bytes
  have hr := B.returns
  have hts : ∀ w ∈ TT, w.before _ s = true := fun w h => atoms_spec (ws := ww yX8_length cX8_length 2 (some .int)) B.pre w (List.mem_cons_of_mem _ h)
  have hown : s.vm.findClass RX8 = some m.cls := findClass_of_methodNamed B.named
  have hlocks := B.notSynchronized
  subst hsz
  have hD := hD0.self (sz := s.heap.size)
  generalize hAe : va_A [(ob, .inr (8, [.ref ob_0, .ref ob_1, .ref ob_2, .int obv3])), (ob_1, .inl (k 0, 4, .inl obg1))] s.heap.size = A at hD ⊢
  have hA : ∀ q : Nat, s.heap.size ≤ q → A q := fun q h => by rw [← hAe]; exact Or.inr h
  have hS : va_S A s.heap s.heap [] := va_S.rf
  have hl := lv_entry ([.ref ob, .int p0]) (n := 2) (Nat.le_of_ble_eq_true rfl)
  rw [lg_entry_eq]
  generalize (lg_sl ([.ref ob, .int p0]) ++ List.replicate (2 - (lg_sl ([.ref ob, .int p0])).length) Slot.unset).toArray = ls at hl ⊢
  have hl : lv_has ls 2 [(0, .ref ob), (1, .int p0)] := hl
  refine lv_iload_n hx hb dX8_length_0 rfl (lv_at hl 1 rfl) ?_
  obtain ⟨hPc, hDc, hFc⟩ := sub3 hP hD hS hA (ws' := []) [] (by decide +kernel) rfl
  refine va_calli (va_runS (As := [.int p0]) (rest := []) ⟨hx, hb, hml, hown, hts⟩ (c_X8_isSlot l D k p0 s.heap.size) (va_cwS 1 hts (gS tw_4_228 tw_4_214 tw_1_5 tw_4_215) rfl rfl rfl hdS_X8_isSlot ⟨Nat.le_of_ble_eq_true rfl, Nat.le_of_ble_eq_true rfl⟩) (cz_S hK hPc hDc hN [.int p0]) rfl rfl hl.1 rfl (lv_room (Nat.le_of_ble_eq_true rfl)) dX8_length_1 ⟨Nat.le_of_ble_eq_true rfl, Nat.le_of_ble_eq_true rfl⟩) hS (fun q _ h => hFc q h) hFc (fun r_1 uZ tZ H1 locs ht hvm hw hB hz1 hk1 hS => ?_)
  obtain ⟨hP1, hK1, hD1⟩ := hB
  rw [ht] at hP1
  obtain ⟨hP, hD⟩ := va_join (wr := [(ob, .inr (8, [.ref ob_0, .ref ob_1, .ref ob_2, .int obv3])), (ob_1, .inl (k 0, 4, .inl obg1))]) (w1 := []) hP hD [] [0, 1] rfl rfl (by decide +kernel) (by decide +kernel) hk1 hFc hP1 hD1
  clear hK1 hP1 hD1 hPc hDc hFc
  clear hk1 hz1 ht hvm
  have hP : va_P D vwCl [(ob, .inr (8, [.ref ob_0, .ref ob_1, .ref ob_2, .int obv3])), (ob_1, .inl (k 0, 4, .inl obg1))] H1 := hP
  have hD : va_D A [(ob, .inr (8, [.ref ob_0, .ref ob_1, .ref ob_2, .int obv3])), (ob_1, .inl (k 0, 4, .inl obg1))] := hD
  generalize H1 = H at hP hS ⊢
  have hw_2 : (0 ≤ r_1.toInt ∧ r_1.toInt ≤ 1) ∧ ((r_1.toInt = 1 ∧ 0 ≤ p0.toInt ∧ p0.toInt ≤ 3) ∨ (r_1.toInt = 0 ∧ (p0.toInt < 0 ∨ 3 < p0.toInt))) := hw
  obtain ⟨hw_3, hw_4⟩ := hw_2
  clear hw
  refine lv_if_eq (tgt := 16) hx hb dX8_length_4 (by decide) (fun h_5 => ?_) (fun h_5 => ?_)
  · skip
    have zh_5 : r_1.toInt = 0 := z_eq h_5
    refine lv_iconst (v := 0) hx hb dX8_length_16 (by decide) ?_
    obtain ⟨hP9, hD9⟩ := sub2 hP hD (ws' := [(ob, .inr (8, [.ref ob_0, .ref ob_1, .ref ob_2, .int obv3])), (ob_1, .inl (k 0, 4, .inl obg1))]) [0, 1] (by decide +kernel) rfl
    exact W.iret (v := 0) hx hb hr (fun tZ ht hW => ⟨⟨0, (), rfl, ⟨(show 0 ≤ 0 ∧ 0 ≤ 60 from by omega), (show 0 = obg1 p0.toNatClampNeg from False.elim (by omega))⟩, by rw [ht]; exact hP9, va_K.moved hW.alike hK, hD9⟩, hS.F ht⟩) hS.2.2 dX8_length_17
  · skip
    have zh_5 : ¬ r_1.toInt = 0 := z_ne h_5
    refine lv_aload_n hx hb dX8_length_7 rfl (lv_at hl 0 rfl) ?_
    refine va_get (D := D) (ci := 8) (v := .ref ob_1) (C := RX8) (T := TX8) (N := 4) hx hb hts iT_X8 hown hK hP 0 rfl rfl 1 (by decide) (hts _ tw_1_238) (fun _ h9 => h9) rfl dX8_length_8 ?_
    refine lv_iload_n hx hb dX8_length_11 rfl (lv_at hl 1 rfl) ?_
    refine va_iald hx hb hK hP 1 0 rfl rfl (z_in (by omega) (by omega)) dX8_length_12 ?_
    refine lv_topi (fun x_6 ex_6 => ?_)
    have zx_6r0 : 0 ≤ x_6.toInt ∧ x_6.toInt ≤ 60 := by rw [ex_6]; exact PR.ld hp_obg1_0 (by omega) (by omega) (by omega)
    refine lv_goto (tgt := 17) hx hb dX8_length_13 (by decide) ?_
    obtain ⟨hP9, hD9⟩ := sub2 hP hD (ws' := [(ob, .inr (8, [.ref ob_0, .ref ob_1, .ref ob_2, .int obv3])), (ob_1, .inl (k 0, 4, .inl obg1))]) [0, 1] (by decide +kernel) rfl
    exact W.iret (v := x_6) hx hb hr (fun tZ ht hW => ⟨⟨x_6, (), rfl, ⟨(show 0 ≤ x_6.toInt ∧ x_6.toInt ≤ 60 from by omega), (ex_6)⟩, by rw [ht]; exact hP9, va_K.moved hW.alike hK, hD9⟩, hS.F ht⟩) hS.2.2 dX8_length_17
set_option maxHeartbeats 4000000 in
set_option maxRecDepth 100000 in
theorem c_X8_number (l : Launch) (D : va_G) (k : Nat → ClassId) (ob : Nat) (p0 : Int32) (p1 : Int32) (ob_0 : Nat) (ob_1 : Nat) (ob_2 : Nat) (obv3 : Int32) (obg0 : Nat → Int64) (obg1 : Nat → Int32) (sz : Nat) (h_p0 : 0 ≤ p0.toInt ∧ p0.toInt ≤ 3) (hp_obg1_0 : PR 4 1 0 0 60 obg1) : Met l yX8_number (ww yX8_number cX8_number 3 (some .long)) ({ frames := 2, cells := 0, slots := 0, locals := 41 }) (Pre0 D k [(ob, .inr (8, [.ref ob_0, .ref ob_1, .ref ob_2, .int obv3])), (ob_0, .inl (k 2, 240, .inr (.inl obg0))), (ob_1, .inl (k 0, 4, .inl obg1))] sz [.ref ob, .int p0, .int p1]) (va_Ql (fun (r : Int64) (_ : Unit) => (NUMq obg0 p0.toInt p1.toInt (obg1 p0.toNatClampNeg).toInt r)) (fun (_ : Unit) tZ => Bw D k (va_A [(ob, .inr (8, [.ref ob_0, .ref ob_1, .ref ob_2, .int obv3])), (ob_0, .inl (k 2, 240, .inr (.inl obg0))), (ob_1, .inl (k 0, 4, .inl obg1))] sz) [(ob, .inr (8, [.ref ob_0, .ref ob_1, .ref ob_2, .int obv3])), (ob_0, .inl (k 2, 240, .inr (.inl obg0))), (ob_1, .inl (k 0, 4, .inl obg1))] tZ) (va_A [(ob, .inr (8, [.ref ob_0, .ref ob_1, .ref ob_2, .int obv3])), (ob_0, .inl (k 2, 240, .inr (.inl obg0))), (ob_1, .inl (k 0, 4, .inl obg1))] sz)) 0 0 (va_A [(ob, .inr (8, [.ref ob_0, .ref ob_1, .ref ob_2, .int obv3])), (ob_0, .inl (k 2, 240, .inr (.inl obg0))), (ob_1, .inl (k 0, 4, .inl obg1))] sz) := by
  refine Met.ofW (cc := cX8_number) (maxL := 3) (ret := (some .long)) (by decide +kernel) rfl ?_
  intro p e s m args below meth c s₁ B hml hv
  obtain ⟨rfl, hsz, hP, hK, hD0, hN⟩ := hv
  have hx := B.exec
  have hb := B.bytes
  have hr := B.returns
  have hts : ∀ w ∈ TT, w.before _ s = true := fun w h => atoms_spec (ws := ww yX8_number cX8_number 3 (some .long)) B.pre w (List.mem_cons_of_mem _ h)
  have hown : s.vm.findClass RX8 = some m.cls := findClass_of_methodNamed B.named
  have hlocks := B.notSynchronized
  subst hsz
  have hD := hD0.self (sz := s.heap.size)
  generalize hAe : va_A [(ob, .inr (8, [.ref ob_0, .ref ob_1, .ref ob_2, .int obv3])), (ob_0, .inl (k 2, 240, .inr (.inl obg0))), (ob_1, .inl (k 0, 4, .inl obg1))] s.heap.size = A at hD ⊢
  have hA : ∀ q : Nat, s.heap.size ≤ q → A q := fun q h => by rw [← hAe]; exact Or.inr h
  have hS : va_S A s.heap s.heap [] := va_S.rf
  have hl := lv_entry ([.ref ob, .int p0, .int p1]) (n := 3) (Nat.le_of_ble_eq_true rfl)
  rw [lg_entry_eq]
  generalize (lg_sl ([.ref ob, .int p0, .int p1]) ++ List.replicate (3 - (lg_sl ([.ref ob, .int p0, .int p1])).length) Slot.unset).toArray = ls at hl ⊢
  have hl : lv_has ls 3 [(0, .ref ob), (1, .int p0), (2, .int p1)] := hl
  refine lv_iload_n hx hb dX8_number_0 rfl (lv_at hl 2 rfl) ?_
  refine lv_if_lt (tgt := 27) hx hb dX8_number_1 (by decide) (fun h_1 => ?_) (fun h_1 => ?_)
  · skip
    have zh_1 : p1.toInt < 0 := z_lt h_1
    refine lv_lconst (v := 0) hx hb dX8_number_27 (by decide) ?_
    obtain ⟨hP9, hD9⟩ := sub2 hP hD (ws' := [(ob, .inr (8, [.ref ob_0, .ref ob_1, .ref ob_2, .int obv3])), (ob_0, .inl (k 2, 240, .inr (.inl obg0))), (ob_1, .inl (k 0, 4, .inl obg1))]) [0, 1, 2] (by decide +kernel) rfl
    exact W.lret (v := 0) hx hb hr (fun tZ ht hW => ⟨⟨0, (), rfl, (Or.inl ⟨rfl, show p1.toInt < 0 ∨ (obg1 p0.toNatClampNeg).toInt ≤ p1.toInt from by omega⟩), by rw [ht]; exact hP9, va_K.moved hW.alike hK, hD9⟩, hS.F ht⟩) hS.2.2 dX8_number_28
  · skip
    have zh_1 : 0 ≤ p1.toInt := z_nlt h_1
    refine lv_iload_n hx hb dX8_number_4 rfl (lv_at hl 2 rfl) ?_
    refine lv_aload_n hx hb dX8_number_5 rfl (lv_at hl 0 rfl) ?_
    refine lv_iload_n hx hb dX8_number_6 rfl (lv_at hl 1 rfl) ?_
    obtain ⟨hPc, hDc, hFc⟩ := sub3 hP hD hS hA (ws' := [(ob, .inr (8, [.ref ob_0, .ref ob_1, .ref ob_2, .int obv3])), (ob_1, .inl (k 0, 4, .inl obg1))]) [0, 2] (by decide +kernel) rfl
    refine va_calli (va_runV (C := RX8) (As := [.int p0]) (rest := [.int p1]) ⟨hx, hb, hml, hown, hts⟩ (c_X8_length l D k ob p0 ob_0 ob_1 ob_2 obv3 obg1 s.heap.size (show 0 ≤ p0.toInt ∧ p0.toInt ≤ 3 from by omega) hp_obg1_0) (cwV 1 hts (gV tw_4_224 tw_4_225 tw_4_226 tw_1_5 tw_4_227) rfl rfl rfl hdV_X8_length ⟨Nat.le_of_ble_eq_true rfl, Nat.le_of_ble_eq_true rfl⟩) (cz_V hK hPc hDc hN (ci := 8) (q0 := 0) rfl rfl [.int p0]) rfl rfl hl.1 rfl (lv_room (Nat.le_of_ble_eq_true rfl)) dX8_number_7 ⟨Nat.le_of_ble_eq_true rfl, Nat.le_of_ble_eq_true rfl⟩) hS (fun q _ h => hFc q h) hFc (fun r_2 uZ tZ H1 locs ht hvm hw hB hz1 hk1 hS => ?_)
    obtain ⟨hP1, hK1, hD1⟩ := hB
    rw [ht] at hP1
    obtain ⟨hP, hD⟩ := va_join (wr := [(ob_0, .inl (k 2, 240, .inr (.inl obg0)))]) (w1 := [(ob, .inr (8, [.ref ob_0, .ref ob_1, .ref ob_2, .int obv3])), (ob_1, .inl (k 0, 4, .inl obg1))]) hP hD [0, 2] [1] rfl rfl (by decide +kernel) (by decide +kernel) hk1 hFc hP1 hD1
    clear hK1 hP1 hD1 hPc hDc hFc
    clear hk1 hz1 ht hvm
    have hP : va_P D vwCl [(ob_0, .inl (k 2, 240, .inr (.inl obg0))), (ob, .inr (8, [.ref ob_0, .ref ob_1, .ref ob_2, .int obv3])), (ob_1, .inl (k 0, 4, .inl obg1))] H1 := hP
    have hD : va_D A [(ob_0, .inl (k 2, 240, .inr (.inl obg0))), (ob, .inr (8, [.ref ob_0, .ref ob_1, .ref ob_2, .int obv3])), (ob_1, .inl (k 0, 4, .inl obg1))] := hD
    generalize H1 = H at hP hS ⊢
    have hw_3 : (0 ≤ r_2.toInt ∧ r_2.toInt ≤ 60) ∧ (r_2 = obg1 p0.toNatClampNeg) := hw
    obtain ⟨hw_4, hw_5⟩ := hw_3
    clear hw
    refine lv_icmp_ge (tgt := 27) hx hb dX8_number_10 (by decide) (fun h_6 => ?_) (fun h_6 => ?_)
    · skip
      have zh_6 : r_2.toInt ≤ p1.toInt := z_le h_6
      refine lv_lconst (v := 0) hx hb dX8_number_27 (by decide) ?_
      obtain ⟨hP9, hD9⟩ := sub2 hP hD (ws' := [(ob, .inr (8, [.ref ob_0, .ref ob_1, .ref ob_2, .int obv3])), (ob_0, .inl (k 2, 240, .inr (.inl obg0))), (ob_1, .inl (k 0, 4, .inl obg1))]) [1, 0, 2] (by decide +kernel) rfl
      exact W.lret (v := 0) hx hb hr (fun tZ ht hW => ⟨⟨0, (), rfl, (Or.inl ⟨rfl, show p1.toInt < 0 ∨ (obg1 p0.toNatClampNeg).toInt ≤ p1.toInt from by have q7 := congrArg Int32.toInt hw_5; omega⟩), by rw [ht]; exact hP9, va_K.moved hW.alike hK, hD9⟩, hS.F ht⟩) hS.2.2 dX8_number_28
    · skip
      have zh_6 : p1.toInt < r_2.toInt := z_nle h_6
      refine lv_aload_n hx hb dX8_number_13 rfl (lv_at hl 0 rfl) ?_
      refine va_get (D := D) (ci := 8) (v := .ref ob_0) (C := RX8) (T := TX8) (N := 4) hx hb hts iT_X8 hown hK hP 1 rfl rfl 0 (by decide) (hts _ tw_1_237) (fun _ h9 => h9) rfl dX8_number_14 ?_
      refine lv_iload_n hx hb dX8_number_17 rfl (lv_at hl 1 rfl) ?_
      refine lv_bipush (v := 60) hx hb dX8_number_18 (by decide) ?_
      refine lv_imul hx hb dX8_number_20 ?_
      refine lv_topi (fun x_7 ex_7 => ?_)
      have zx_7 : x_7.toInt = p0.toInt * 60 := by rw [ex_7]; exact z_mul rfl rfl (by omega) (by omega)
      refine lv_iload_n hx hb dX8_number_21 rfl (lv_at hl 2 rfl) ?_
      refine lv_iadd hx hb dX8_number_22 ?_
      refine lv_topi (fun x_8 ex_8 => ?_)
      have zx_8 : x_8.toInt = x_7.toInt + p1.toInt := by rw [ex_8]; exact z_add rfl rfl (by omega) (by omega)
      refine va_lald hx hb hK hP 0 2 rfl rfl (z_in (by omega) (by omega)) dX8_number_23 ?_
      refine lv_topl (fun x_9 ex_9 => ?_)
      refine lv_goto (tgt := 28) hx hb dX8_number_24 (by decide) ?_
      obtain ⟨hP9, hD9⟩ := sub2 hP hD (ws' := [(ob, .inr (8, [.ref ob_0, .ref ob_1, .ref ob_2, .int obv3])), (ob_0, .inl (k 2, 240, .inr (.inl obg0))), (ob_1, .inl (k 0, 4, .inl obg1))]) [1, 0, 2] (by decide +kernel) rfl
      exact W.lret (v := x_9) hx hb hr (fun tZ ht hW => ⟨⟨x_9, (), rfl, (Or.inr ⟨show 0 ≤ p1.toInt from by omega, show p1.toInt < (obg1 p0.toNatClampNeg).toInt from by have q7 := congrArg Int32.toInt hw_5; omega, ⟨x_8, show x_8.toInt = 60 * p0.toInt + p1.toInt from by omega, ex_9⟩⟩), by rw [ht]; exact hP9, va_K.moved hW.alike hK, hD9⟩, hS.F ht⟩) hS.2.2 dX8_number_28
set_option maxHeartbeats 4000000 in
set_option maxRecDepth 100000 in
theorem c_X11_minuteOrNone (l : Launch) (D : va_G) (k : Nat → ClassId) (p0 : Int32) (sz : Nat) : Met l yX11_minuteOrNone (ww yX11_minuteOrNone cX11_minuteOrNone 1 (some .int)) ({ frames := 0, cells := 0, slots := 0, locals := 0 }) (Pre0 D k [] sz [.int p0]) (va_Qi (fun (r : Int32) (_ : Unit) => ((-2147483648) ≤ r.toInt ∧ r.toInt ≤ 999999)) (fun (_ : Unit) tZ => Bw D k (va_A [] sz) [] tZ) (va_A [] sz)) 0 0 (va_A [] sz) := by
  refine Met.ofW (cc := cX11_minuteOrNone) (maxL := 1) (ret := (some .int)) (by decide +kernel) rfl ?_
  intro p e s m args below meth c s₁ B hml hv
  obtain ⟨rfl, hsz, hP, hK, hD0, hN⟩ := hv
  have hx := B.exec
  have hb := B.bytes
  have hr := B.returns
  have hts : ∀ w ∈ TT, w.before _ s = true := fun w h => atoms_spec (ws := ww yX11_minuteOrNone cX11_minuteOrNone 1 (some .int)) B.pre w (List.mem_cons_of_mem _ h)
  have hown : s.vm.findClass RX11 = some m.cls := findClass_of_methodNamed B.named
  have hlocks := B.notSynchronized
  subst hsz
  have hD := hD0.self (sz := s.heap.size)
  generalize hAe : va_A [] s.heap.size = A at hD ⊢
  have hA : ∀ q : Nat, s.heap.size ≤ q → A q := fun q h => by rw [← hAe]; exact Or.inr h
  have hS : va_S A s.heap s.heap [] := va_S.rf
  have hl := lv_entry ([.int p0]) (n := 1) (Nat.le_of_ble_eq_true rfl)
  rw [lg_entry_eq]
  generalize (lg_sl ([.int p0]) ++ List.replicate (1 - (lg_sl ([.int p0])).length) Slot.unset).toArray = ls at hl ⊢
  have hl : lv_has ls 1 [(0, .int p0)] := hl
  refine lv_iload_n hx hb dX11_minuteOrNone_0 rfl (lv_at hl 0 rfl) ?_
  refine lv_ldc (v := 1000000) hx hb hown (hts _ tw_3_210) dX11_minuteOrNone_1 ?_
  refine lv_icmp_lt (tgt := 10) hx hb dX11_minuteOrNone_3 (by decide) (fun h_1 => ?_) (fun h_1 => ?_)
  · skip
    have zh_1 : p0.toInt < 1000000 := z_lt h_1
    refine lv_iload_n hx hb dX11_minuteOrNone_10 rfl (lv_at hl 0 rfl) ?_
    obtain ⟨hP9, hD9⟩ := sub2 hP hD (ws' := []) [] (by decide +kernel) rfl
    exact W.iret (v := p0) hx hb hr (fun tZ ht hW => ⟨⟨p0, (), rfl, (show (-2147483648) ≤ p0.toInt ∧ p0.toInt ≤ 999999 from by have := z_rng p0; omega), by rw [ht]; exact hP9, va_K.moved hW.alike hK, hD9⟩, hS.F ht⟩) hS.2.2 dX11_minuteOrNone_11
  · skip
    have zh_1 : 1000000 ≤ p0.toInt := z_nlt h_1
    refine lv_iconst (v := (-1)) hx hb dX11_minuteOrNone_6 (by decide) ?_
    refine lv_goto (tgt := 11) hx hb dX11_minuteOrNone_7 (by decide) ?_
    obtain ⟨hP9, hD9⟩ := sub2 hP hD (ws' := []) [] (by decide +kernel) rfl
    exact W.iret (v := (-1)) hx hb hr (fun tZ ht hW => ⟨⟨(-1), (), rfl, (show (-2147483648) ≤ (-1) ∧ (-1) ≤ 999999 from by omega), by rw [ht]; exact hP9, va_K.moved hW.alike hK, hD9⟩, hS.F ht⟩) hS.2.2 dX11_minuteOrNone_11
set_option maxHeartbeats 4000000 in
set_option maxRecDepth 100000 in
theorem c_X2_matches (l : Launch) (D : va_G) (k : Nat → ClassId) (ob : Nat) (rw : Nat) (p1 : Int32) (p2 : Int32) (p3 : Int32) (obv0 : Int32) (obb : Nat) (ob_2 : Nat) (ob_3 : Nat) (ob_4 : Nat) (ob_5 : Nat) (obg2 : Nat → Int32) (obg3 : Nat → Int32) (rw_0 : Nat) (rw_1 : Nat) (rw_2 : Nat) (rwv3 : Int32) (rwg0 : Nat → Int64) (rwg1 : Nat → Int32) (sz : Nat) (h_p1 : 0 ≤ p1.toInt ∧ p1.toInt ≤ 3) (h_p2 : 0 ≤ p2.toInt ∧ p2.toInt ≤ 3) (h_p3 : 0 ≤ p3.toInt ∧ p3.toInt ≤ 99) (hp_obg2_0 : PR 32 1 0 0 1000000 obg2) (hp_obg3_0 : PR 32 1 0 0 1000000 obg3) (hp_rwg1_0 : PR 4 1 0 0 60 rwg1) (hWN : WNi rwg0 p1.toInt (rwg1 p1.toNatClampNeg).toInt) : Met l yX2_matches (ww yX2_matches cX2_matches 7 (some .boolean)) ({ frames := 3, cells := 0, slots := 0, locals := 63 }) (Pre0 D k [(ob, .inr (2, [.int obv0, .ref obb, .ref ob_2, .ref ob_3, .ref ob_4, .ref ob_5])), (ob_2, .inl (k 0, 32, .inl obg2)), (ob_3, .inl (k 0, 32, .inl obg3)), (rw, .inr (8, [.ref rw_0, .ref rw_1, .ref rw_2, .int rwv3])), (rw_0, .inl (k 2, 240, .inr (.inl rwg0))), (rw_1, .inl (k 0, 4, .inl rwg1))] sz [.ref ob, .ref rw, .int p1, .int p2, .int p3]) (va_Qi (fun (r : Int32) (_ : Unit) => (0 ≤ r.toInt ∧ r.toInt ≤ 1)) (fun (_ : Unit) tZ => Bw D k (va_A [(ob, .inr (2, [.int obv0, .ref obb, .ref ob_2, .ref ob_3, .ref ob_4, .ref ob_5])), (ob_2, .inl (k 0, 32, .inl obg2)), (ob_3, .inl (k 0, 32, .inl obg3)), (rw, .inr (8, [.ref rw_0, .ref rw_1, .ref rw_2, .int rwv3])), (rw_0, .inl (k 2, 240, .inr (.inl rwg0))), (rw_1, .inl (k 0, 4, .inl rwg1))] sz) [(ob, .inr (2, [.int obv0, .ref obb, .ref ob_2, .ref ob_3, .ref ob_4, .ref ob_5])), (ob_2, .inl (k 0, 32, .inl obg2)), (ob_3, .inl (k 0, 32, .inl obg3)), (rw, .inr (8, [.ref rw_0, .ref rw_1, .ref rw_2, .int rwv3])), (rw_0, .inl (k 2, 240, .inr (.inl rwg0))), (rw_1, .inl (k 0, 4, .inl rwg1))] tZ) (va_A [(ob, .inr (2, [.int obv0, .ref obb, .ref ob_2, .ref ob_3, .ref ob_4, .ref ob_5])), (ob_2, .inl (k 0, 32, .inl obg2)), (ob_3, .inl (k 0, 32, .inl obg3)), (rw, .inr (8, [.ref rw_0, .ref rw_1, .ref rw_2, .int rwv3])), (rw_0, .inl (k 2, 240, .inr (.inl rwg0))), (rw_1, .inl (k 0, 4, .inl rwg1))] sz)) 0 0 (va_A [(ob, .inr (2, [.int obv0, .ref obb, .ref ob_2, .ref ob_3, .ref ob_4, .ref ob_5])), (ob_2, .inl (k 0, 32, .inl obg2)), (ob_3, .inl (k 0, 32, .inl obg3)), (rw, .inr (8, [.ref rw_0, .ref rw_1, .ref rw_2, .int rwv3])), (rw_0, .inl (k 2, 240, .inr (.inl rwg0))), (rw_1, .inl (k 0, 4, .inl rwg1))] sz) := by
  refine Met.ofW (cc := cX2_matches) (maxL := 7) (ret := (some .boolean)) (by decide +kernel) rfl ?_
  intro p e s m args below meth c s₁ B hml hv
  obtain ⟨rfl, hsz, hP, hK, hD0, hN⟩ := hv
  have hx := B.exec
  have hb := B.bytes
  have hr := B.returns
  have hts : ∀ w ∈ TT, w.before _ s = true := fun w h => atoms_spec (ws := ww yX2_matches cX2_matches 7 (some .boolean)) B.pre w (List.mem_cons_of_mem _ h)
  have hown : s.vm.findClass RX2 = some m.cls := findClass_of_methodNamed B.named
  have hlocks := B.notSynchronized
  subst hsz
  have hD := hD0.self (sz := s.heap.size)
  generalize hAe : va_A [(ob, .inr (2, [.int obv0, .ref obb, .ref ob_2, .ref ob_3, .ref ob_4, .ref ob_5])), (ob_2, .inl (k 0, 32, .inl obg2)), (ob_3, .inl (k 0, 32, .inl obg3)), (rw, .inr (8, [.ref rw_0, .ref rw_1, .ref rw_2, .int rwv3])), (rw_0, .inl (k 2, 240, .inr (.inl rwg0))), (rw_1, .inl (k 0, 4, .inl rwg1))] s.heap.size = A at hD ⊢
  have hA : ∀ q : Nat, s.heap.size ≤ q → A q := fun q h => by rw [← hAe]; exact Or.inr h
  have hS : va_S A s.heap s.heap [] := va_S.rf
  have hl := lv_entry ([.ref ob, .ref rw, .int p1, .int p2, .int p3]) (n := 7) (Nat.le_of_ble_eq_true rfl)
  rw [lg_entry_eq]
  generalize (lg_sl ([.ref ob, .ref rw, .int p1, .int p2, .int p3]) ++ List.replicate (7 - (lg_sl ([.ref ob, .ref rw, .int p1, .int p2, .int p3])).length) Slot.unset).toArray = ls at hl ⊢
  have hl : lv_has ls 7 [(0, .ref ob), (1, .ref rw), (2, .int p1), (3, .int p2), (4, .int p3)] := hl
  refine lv_iconst (v := 0) hx hb dX2_matches_0 (by decide) ?_
  refine lv_istore (lv' := [(5, .int 0), (0, .ref ob), (1, .ref rw), (2, .int p1), (3, .int p2), (4, .int p3)]) hx hb dX2_matches_1 hl (by decide) rfl (fun ls hl => ?_)
  refine loop_r (Wg := fun H locs ls => W p l e _ s m _ below meth c H locs _ _ _ (F0 m 3 ls [])) (fun n9 H locs ls => ∃ (L3l5 : Int32), n9 = (60 - L3l5.toInt).toNat ∧ (0 ≤ L3l5.toInt ∧ L3l5.toInt ≤ 60) ∧ (L3l5.toInt % 2 = 0) ∧ va_P D vwCl [(ob, .inr (2, [.int obv0, .ref obb, .ref ob_2, .ref ob_3, .ref ob_4, .ref ob_5])), (ob_2, .inl (k 0, 32, .inl obg2)), (ob_3, .inl (k 0, 32, .inl obg3)), (rw, .inr (8, [.ref rw_0, .ref rw_1, .ref rw_2, .int rwv3])), (rw_0, .inl (k 2, 240, .inr (.inl rwg0))), (rw_1, .inl (k 0, 4, .inl rwg1))] H ∧ va_D A [(ob, .inr (2, [.int obv0, .ref obb, .ref ob_2, .ref ob_3, .ref ob_4, .ref ob_5])), (ob_2, .inl (k 0, 32, .inl obg2)), (ob_3, .inl (k 0, 32, .inl obg3)), (rw, .inr (8, [.ref rw_0, .ref rw_1, .ref rw_2, .int rwv3])), (rw_0, .inl (k 2, 240, .inr (.inl rwg0))), (rw_1, .inl (k 0, 4, .inl rwg1))] ∧ va_S A s.heap H locs ∧ lv_has ls 7 [(0, .ref ob), (1, .ref rw), (2, .int p1), (3, .int p2), (4, .int p3), (5, .int L3l5)]) (fun n9 H locs ls hI ih_1 => ?_) _ _ _ _ ⟨0, rfl, (show 0 ≤ 0 ∧ 0 ≤ 60 from by omega), (show 0 % 2 = 0 from by omega), hP.sub (ws' := [(ob, .inr (2, [.int obv0, .ref obb, .ref ob_2, .ref ob_3, .ref ob_4, .ref ob_5])), (ob_2, .inl (k 0, 32, .inl obg2)), (ob_3, .inl (k 0, 32, .inl obg3)), (rw, .inr (8, [.ref rw_0, .ref rw_1, .ref rw_2, .int rwv3])), (rw_0, .inl (k 2, 240, .inr (.inl rwg0))), (rw_1, .inl (k 0, 4, .inl rwg1))]) [0, 1, 2, 3, 4, 5] rfl, hD.sub (ws' := [(ob, .inr (2, [.int obv0, .ref obb, .ref ob_2, .ref ob_3, .ref ob_4, .ref ob_5])), (ob_2, .inl (k 0, 32, .inl obg2)), (ob_3, .inl (k 0, 32, .inl obg3)), (rw, .inr (8, [.ref rw_0, .ref rw_1, .ref rw_2, .int rwv3])), (rw_0, .inl (k 2, 240, .inr (.inl rwg0))), (rw_1, .inl (k 0, 4, .inl rwg1))]) [0, 1, 2, 3, 4, 5] (by decide +kernel) rfl, hS, lv_sub hl [1, 2, 3, 4, 5, 0] rfl⟩
  clear hP hD hS hl
  obtain ⟨L3l5, en_2, zL3l5, hi3x0, hP, hD, hS, hl⟩ := hI
  refine lv_iload hx hb dX2_matches_3 (lv_at hl 5 rfl) ?_
  refine lv_iconst (v := 1) hx hb dX2_matches_5 (by decide) ?_
  refine lv_iadd hx hb dX2_matches_6 ?_
  refine lv_topi (fun x_3 ex_3 => ?_)
  have zx_3 : x_3.toInt = L3l5.toInt + 1 := by rw [ex_3]; exact z_add rfl rfl (by omega) (by omega)
  refine lv_aload_n hx hb dX2_matches_7 rfl (lv_at hl 1 rfl) ?_
  refine lv_iload_n hx hb dX2_matches_8 rfl (lv_at hl 2 rfl) ?_
  obtain ⟨hPc, hDc, hFc⟩ := sub3 hP hD hS hA (ws' := [(rw, .inr (8, [.ref rw_0, .ref rw_1, .ref rw_2, .int rwv3])), (rw_1, .inl (k 0, 4, .inl rwg1))]) [3, 5] (by decide +kernel) rfl
  refine va_calli (va_runV (C := RX8) (As := [.int p1]) (rest := [.int x_3]) ⟨hx, hb, hml, hown, hts⟩ (c_X8_length l D k rw p1 rw_0 rw_1 rw_2 rwv3 rwg1 H.size (show 0 ≤ p1.toInt ∧ p1.toInt ≤ 3 from by omega) hp_rwg1_0) (cwV 1 hts (gV tw_5_3 tw_4_225 tw_4_226 tw_1_5 tw_4_227) rfl rfl rfl hdV_X8_length ⟨Nat.le_of_ble_eq_true rfl, Nat.le_of_ble_eq_true rfl⟩) (cz_V hK hPc hDc hN (ci := 8) (q0 := 0) rfl rfl [.int p1]) rfl rfl hl.1 rfl (lv_room (Nat.le_of_ble_eq_true rfl)) dX2_matches_9 ⟨Nat.le_of_ble_eq_true rfl, Nat.le_of_ble_eq_true rfl⟩) hS (fun q _ h => hFc q h) hFc (fun r_4 uZ tZ H1 locs ht hvm hw hB hz1 hk1 hS => ?_)
  obtain ⟨hP1, hK1, hD1⟩ := hB
  rw [ht] at hP1
  obtain ⟨hP, hD⟩ := va_join (wr := [(ob, .inr (2, [.int obv0, .ref obb, .ref ob_2, .ref ob_3, .ref ob_4, .ref ob_5])), (ob_2, .inl (k 0, 32, .inl obg2)), (ob_3, .inl (k 0, 32, .inl obg3)), (rw_0, .inl (k 2, 240, .inr (.inl rwg0)))]) (w1 := [(rw, .inr (8, [.ref rw_0, .ref rw_1, .ref rw_2, .int rwv3])), (rw_1, .inl (k 0, 4, .inl rwg1))]) hP hD [3, 5] [0, 1, 2, 4] rfl rfl (by decide +kernel) (by decide +kernel) hk1 hFc hP1 hD1
  clear hK1 hP1 hD1 hPc hDc hFc
  clear hk1 hz1 ht hvm
  have hP : va_P D vwCl [(ob, .inr (2, [.int obv0, .ref obb, .ref ob_2, .ref ob_3, .ref ob_4, .ref ob_5])), (ob_2, .inl (k 0, 32, .inl obg2)), (ob_3, .inl (k 0, 32, .inl obg3)), (rw_0, .inl (k 2, 240, .inr (.inl rwg0))), (rw, .inr (8, [.ref rw_0, .ref rw_1, .ref rw_2, .int rwv3])), (rw_1, .inl (k 0, 4, .inl rwg1))] H1 := hP
  have hD : va_D A [(ob, .inr (2, [.int obv0, .ref obb, .ref ob_2, .ref ob_3, .ref ob_4, .ref ob_5])), (ob_2, .inl (k 0, 32, .inl obg2)), (ob_3, .inl (k 0, 32, .inl obg3)), (rw_0, .inl (k 2, 240, .inr (.inl rwg0))), (rw, .inr (8, [.ref rw_0, .ref rw_1, .ref rw_2, .int rwv3])), (rw_1, .inl (k 0, 4, .inl rwg1))] := hD
  generalize H1 = H at hP hS ⊢
  have hw_5 : (0 ≤ r_4.toInt ∧ r_4.toInt ≤ 60) ∧ (r_4 = rwg1 p1.toNatClampNeg) := hw
  obtain ⟨hw_6, hw_7⟩ := hw_5
  clear hw
  refine lv_icmp_ge (tgt := 59) hx hb dX2_matches_12 (by decide) (fun h_8 => ?_) (fun h_8 => ?_)
  · skip
    have zh_8 : r_4.toInt ≤ x_3.toInt := z_le h_8
    refine lv_iconst (v := 1) hx hb dX2_matches_59 (by decide) ?_
    obtain ⟨hP9, hD9⟩ := sub2 hP hD (ws' := [(ob, .inr (2, [.int obv0, .ref obb, .ref ob_2, .ref ob_3, .ref ob_4, .ref ob_5])), (ob_2, .inl (k 0, 32, .inl obg2)), (ob_3, .inl (k 0, 32, .inl obg3)), (rw, .inr (8, [.ref rw_0, .ref rw_1, .ref rw_2, .int rwv3])), (rw_0, .inl (k 2, 240, .inr (.inl rwg0))), (rw_1, .inl (k 0, 4, .inl rwg1))]) [0, 1, 2, 4, 3, 5] (by decide +kernel) rfl
    exact W.zret (v := 1) hx hb hr (by decide) (fun tZ ht hW => ⟨⟨1, (), rfl, (show 0 ≤ 1 ∧ 1 ≤ 1 from by omega), by rw [ht]; exact hP9, va_K.moved hW.alike hK, hD9⟩, hS.F ht⟩) hS.2.2 dX2_matches_60
  · skip
    have zh_8 : x_3.toInt < r_4.toInt := z_nle h_8
    refine lv_aload_n hx hb dX2_matches_15 rfl (lv_at hl 1 rfl) ?_
    refine lv_iload_n hx hb dX2_matches_16 rfl (lv_at hl 2 rfl) ?_
    refine lv_iload hx hb dX2_matches_17 (lv_at hl 5 rfl) ?_
    obtain ⟨hPc, hDc, hFc⟩ := sub3 hP hD hS hA (ws' := [(rw, .inr (8, [.ref rw_0, .ref rw_1, .ref rw_2, .int rwv3])), (rw_0, .inl (k 2, 240, .inr (.inl rwg0))), (rw_1, .inl (k 0, 4, .inl rwg1))]) [4, 3, 5] (by decide +kernel) rfl
    refine va_calll (va_runV (C := RX8) (As := [.int p1, .int L3l5]) (rest := []) ⟨hx, hb, hml, hown, hts⟩ (c_X8_number l D k rw p1 L3l5 rw_0 rw_1 rw_2 rwv3 rwg0 rwg1 H.size (show 0 ≤ p1.toInt ∧ p1.toInt ≤ 3 from by omega) hp_rwg1_0) (cwV 2 hts (gV tw_5_4 tw_4_230 tw_4_231 tw_1_5 tw_4_232) rfl rfl rfl hdV_X8_number ⟨Nat.le_of_ble_eq_true rfl, Nat.le_of_ble_eq_true rfl⟩) (cz_V hK hPc hDc hN (ci := 8) (q0 := 0) rfl rfl [.int p1, .int L3l5]) rfl rfl hl.1 rfl (lv_room (Nat.le_of_ble_eq_true rfl)) dX2_matches_19 ⟨Nat.le_of_ble_eq_true rfl, Nat.le_of_ble_eq_true rfl⟩) hS (fun q _ h => hFc q h) hFc (fun r_9 uZ tZ H1 locs ht hvm hw hB hz1 hk1 hS => ?_)
    obtain ⟨hP1, hK1, hD1⟩ := hB
    rw [ht] at hP1
    obtain ⟨hP, hD⟩ := va_join (wr := [(ob, .inr (2, [.int obv0, .ref obb, .ref ob_2, .ref ob_3, .ref ob_4, .ref ob_5])), (ob_2, .inl (k 0, 32, .inl obg2)), (ob_3, .inl (k 0, 32, .inl obg3))]) (w1 := [(rw, .inr (8, [.ref rw_0, .ref rw_1, .ref rw_2, .int rwv3])), (rw_0, .inl (k 2, 240, .inr (.inl rwg0))), (rw_1, .inl (k 0, 4, .inl rwg1))]) hP hD [4, 3, 5] [0, 1, 2] rfl rfl (by decide +kernel) (by decide +kernel) hk1 hFc hP1 hD1
    clear hK1 hP1 hD1 hPc hDc hFc
    clear hk1 hz1 ht hvm
    have hP : va_P D vwCl [(ob, .inr (2, [.int obv0, .ref obb, .ref ob_2, .ref ob_3, .ref ob_4, .ref ob_5])), (ob_2, .inl (k 0, 32, .inl obg2)), (ob_3, .inl (k 0, 32, .inl obg3)), (rw, .inr (8, [.ref rw_0, .ref rw_1, .ref rw_2, .int rwv3])), (rw_0, .inl (k 2, 240, .inr (.inl rwg0))), (rw_1, .inl (k 0, 4, .inl rwg1))] H1 := hP
    have hD : va_D A [(ob, .inr (2, [.int obv0, .ref obb, .ref ob_2, .ref ob_3, .ref ob_4, .ref ob_5])), (ob_2, .inl (k 0, 32, .inl obg2)), (ob_3, .inl (k 0, 32, .inl obg3)), (rw, .inr (8, [.ref rw_0, .ref rw_1, .ref rw_2, .int rwv3])), (rw_0, .inl (k 2, 240, .inr (.inl rwg0))), (rw_1, .inl (k 0, 4, .inl rwg1))] := hD
    generalize H1 = H at hP hS ⊢
    have hw_10 : (NUMq rwg0 p1.toInt L3l5.toInt (rwg1 p1.toNatClampNeg).toInt r_9) := hw
    have hw_11 := hw_10
    clear hw
    have zwr_9 : 0 ≤ r_9.toInt ∧ r_9.toInt ≤ 7 := hw_11.cs (fun q9 _ => by rw [q9]; decide) (fun ix _ q2 q3 q4 => by rw [q4]; exact WNi.use hWN (ix := ix) (i := L3l5.toInt) (by omega) (by omega) (by omega) (by omega) q2)
    refine lv_l2i (v := r_9.toInt32) hx hb dX2_matches_22 rfl ?_
    refine lv_topi (fun x_12 ex_12 => ?_)
    have zx_12 : x_12.toInt = r_9.toInt := by rw [ex_12]; exact z_l2i (by omega) (by omega)
    refine lv_istore (lv' := [(6, .int x_12), (0, .ref ob), (1, .ref rw), (2, .int p1), (3, .int p2), (4, .int p3), (5, .int L3l5)]) hx hb dX2_matches_23 hl (by decide) rfl (fun ls hl => ?_)
    refine lv_aload_n hx hb dX2_matches_25 rfl (lv_at hl 1 rfl) ?_
    refine lv_iload_n hx hb dX2_matches_26 rfl (lv_at hl 4 rfl) ?_
    refine lv_iload hx hb dX2_matches_27 (lv_at hl 5 rfl) ?_
    refine lv_iload hx hb dX2_matches_29 (lv_at hl 0 rfl) ?_
    obtain ⟨hPc, hDc, hFc⟩ := sub3 hP hD hS hA (ws' := [(ob, .inr (2, [.int obv0, .ref obb, .ref ob_2, .ref ob_3, .ref ob_4, .ref ob_5])), (ob_2, .inl (k 0, 32, .inl obg2)), (ob_3, .inl (k 0, 32, .inl obg3))]) [0, 1, 2] (by decide +kernel) rfl
    refine va_calli (va_runV (C := RX2) (As := [.int p2, .int p3, .int x_12]) (rest := []) ⟨hx, hb, hml, hown, hts⟩ (c_X2_minuteWith l D k ob p2 p3 x_12 obv0 obb ob_2 ob_3 ob_4 ob_5 obg2 obg3 H.size (show 0 ≤ p2.toInt ∧ p2.toInt ≤ 3 from by omega) (show 0 ≤ p3.toInt ∧ p3.toInt ≤ 99 from by omega) (show 0 ≤ x_12.toInt ∧ x_12.toInt ≤ 7 from by omega) hp_obg2_0 hp_obg3_0) (cwV 3 hts (gV tw_4_198 tw_4_181 tw_4_182 tw_1_9 tw_4_183) rfl rfl rfl hdV_X2_minuteWith ⟨Nat.le_of_ble_eq_true rfl, Nat.le_of_ble_eq_true rfl⟩) (cz_V hK hPc hDc hN (ci := 2) (q0 := 0) rfl rfl [.int p2, .int p3, .int x_12]) rfl rfl hl.1 rfl (lv_room (Nat.le_of_ble_eq_true rfl)) dX2_matches_31 ⟨Nat.le_of_ble_eq_true rfl, Nat.le_of_ble_eq_true rfl⟩) hS (fun q _ h => hFc q h) hFc (fun r_13 uZ tZ H1 locs ht hvm hw hB hz1 hk1 hS => ?_)
    obtain ⟨hP1, hK1, hD1⟩ := hB
    rw [ht] at hP1
    obtain ⟨hP, hD⟩ := va_join (wr := [(rw, .inr (8, [.ref rw_0, .ref rw_1, .ref rw_2, .int rwv3])), (rw_0, .inl (k 2, 240, .inr (.inl rwg0))), (rw_1, .inl (k 0, 4, .inl rwg1))]) (w1 := [(ob, .inr (2, [.int obv0, .ref obb, .ref ob_2, .ref ob_3, .ref ob_4, .ref ob_5])), (ob_2, .inl (k 0, 32, .inl obg2)), (ob_3, .inl (k 0, 32, .inl obg3))]) hP hD [0, 1, 2] [3, 4, 5] rfl rfl (by decide +kernel) (by decide +kernel) hk1 hFc hP1 hD1
    clear hK1 hP1 hD1 hPc hDc hFc
    clear hk1 hz1 ht hvm
    have hP : va_P D vwCl [(rw, .inr (8, [.ref rw_0, .ref rw_1, .ref rw_2, .int rwv3])), (rw_0, .inl (k 2, 240, .inr (.inl rwg0))), (rw_1, .inl (k 0, 4, .inl rwg1)), (ob, .inr (2, [.int obv0, .ref obb, .ref ob_2, .ref ob_3, .ref ob_4, .ref ob_5])), (ob_2, .inl (k 0, 32, .inl obg2)), (ob_3, .inl (k 0, 32, .inl obg3))] H1 := hP
    have hD : va_D A [(rw, .inr (8, [.ref rw_0, .ref rw_1, .ref rw_2, .int rwv3])), (rw_0, .inl (k 2, 240, .inr (.inl rwg0))), (rw_1, .inl (k 0, 4, .inl rwg1)), (ob, .inr (2, [.int obv0, .ref obb, .ref ob_2, .ref ob_3, .ref ob_4, .ref ob_5])), (ob_2, .inl (k 0, 32, .inl obg2)), (ob_3, .inl (k 0, 32, .inl obg3))] := hD
    generalize H1 = H at hP hS ⊢
    have hw_14 : (0 ≤ r_13.toInt ∧ r_13.toInt ≤ 1000000) := hw
    have hw_15 := hw_14
    clear hw
    obtain ⟨hPc, hDc, hFc⟩ := sub3 hP hD hS hA (ws' := []) [] (by decide +kernel) rfl
    refine va_calli (va_runSN (As := [.int r_13]) (rest := []) ⟨hx, hb, hml, hown, hts⟩ (c_X11_minuteOrNone l D k r_13 H.size) ⟨va_cnB (host := RX11) 1 hts (gI tw_3_209) rfl rfl rfl (hN.1 (RX2, 107, yX11_minuteOrNone, RX11) nq_X2_107) (hts _ tw_1_1) hdS_X11_minuteOrNone ⟨Nat.le_of_ble_eq_true rfl, Nat.le_of_ble_eq_true rfl⟩, (hts _ tw_3_208), trivial⟩ (cz_S hK hPc hDc hN [.int r_13]) rfl rfl hl.1 rfl (lv_room (Nat.le_of_ble_eq_true rfl)) dX2_matches_34 ⟨Nat.le_of_ble_eq_true rfl, Nat.le_of_ble_eq_true rfl⟩) hS (fun q _ h => hFc q h) hFc (fun r_16 uZ tZ H1 locs ht hvm hw hB hz1 hk1 hS => ?_)
    obtain ⟨hP1, hK1, hD1⟩ := hB
    rw [ht] at hP1
    obtain ⟨hP, hD⟩ := va_join (wr := [(rw, .inr (8, [.ref rw_0, .ref rw_1, .ref rw_2, .int rwv3])), (rw_0, .inl (k 2, 240, .inr (.inl rwg0))), (rw_1, .inl (k 0, 4, .inl rwg1)), (ob, .inr (2, [.int obv0, .ref obb, .ref ob_2, .ref ob_3, .ref ob_4, .ref ob_5])), (ob_2, .inl (k 0, 32, .inl obg2)), (ob_3, .inl (k 0, 32, .inl obg3))]) (w1 := []) hP hD [] [0, 1, 2, 3, 4, 5] rfl rfl (by decide +kernel) (by decide +kernel) hk1 hFc hP1 hD1
    clear hK1 hP1 hD1 hPc hDc hFc
    clear hk1 hz1 ht hvm
    have hP : va_P D vwCl [(rw, .inr (8, [.ref rw_0, .ref rw_1, .ref rw_2, .int rwv3])), (rw_0, .inl (k 2, 240, .inr (.inl rwg0))), (rw_1, .inl (k 0, 4, .inl rwg1)), (ob, .inr (2, [.int obv0, .ref obb, .ref ob_2, .ref ob_3, .ref ob_4, .ref ob_5])), (ob_2, .inl (k 0, 32, .inl obg2)), (ob_3, .inl (k 0, 32, .inl obg3))] H1 := hP
    have hD : va_D A [(rw, .inr (8, [.ref rw_0, .ref rw_1, .ref rw_2, .int rwv3])), (rw_0, .inl (k 2, 240, .inr (.inl rwg0))), (rw_1, .inl (k 0, 4, .inl rwg1)), (ob, .inr (2, [.int obv0, .ref obb, .ref ob_2, .ref ob_3, .ref ob_4, .ref ob_5])), (ob_2, .inl (k 0, 32, .inl obg2)), (ob_3, .inl (k 0, 32, .inl obg3))] := hD
    generalize H1 = H at hP hS ⊢
    have hw_17 : ((-2147483648) ≤ r_16.toInt ∧ r_16.toInt ≤ 999999) := hw
    have hw_18 := hw_17
    clear hw
    refine lv_i2l (v := r_16.toInt64) hx hb dX2_matches_37 rfl ?_
    refine lv_aload_n hx hb dX2_matches_38 rfl (lv_at hl 2 rfl) ?_
    refine lv_iload_n hx hb dX2_matches_39 rfl (lv_at hl 3 rfl) ?_
    refine lv_iload hx hb dX2_matches_40 (lv_at hl 6 rfl) ?_
    refine lv_iconst (v := 1) hx hb dX2_matches_42 (by decide) ?_
    refine lv_iadd hx hb dX2_matches_43 ?_
    refine lv_topi (fun x_19 ex_19 => ?_)
    obtain rfl : x_3 = x_19 := ex_3.trans ex_19.symm
    obtain ⟨hPc, hDc, hFc⟩ := sub3 hP hD hS hA (ws' := [(rw, .inr (8, [.ref rw_0, .ref rw_1, .ref rw_2, .int rwv3])), (rw_0, .inl (k 2, 240, .inr (.inl rwg0))), (rw_1, .inl (k 0, 4, .inl rwg1))]) [0, 1, 2] (by decide +kernel) rfl
    refine va_calll (va_runV (C := RX8) (As := [.int p1, .int x_3]) (rest := [.long r_16.toInt64]) ⟨hx, hb, hml, hown, hts⟩ (c_X8_number l D k rw p1 x_3 rw_0 rw_1 rw_2 rwv3 rwg0 rwg1 H.size (show 0 ≤ p1.toInt ∧ p1.toInt ≤ 3 from by omega) hp_rwg1_0) (cwV 2 hts (gV tw_5_4 tw_4_230 tw_4_231 tw_1_5 tw_4_232) rfl rfl rfl hdV_X8_number ⟨Nat.le_of_ble_eq_true rfl, Nat.le_of_ble_eq_true rfl⟩) (cz_V hK hPc hDc hN (ci := 8) (q0 := 0) rfl rfl [.int p1, .int x_3]) rfl rfl hl.1 rfl (lv_room (Nat.le_of_ble_eq_true rfl)) dX2_matches_44 ⟨Nat.le_of_ble_eq_true rfl, Nat.le_of_ble_eq_true rfl⟩) hS (fun q _ h => hFc q h) hFc (fun r_20 uZ tZ H1 locs ht hvm hw hB hz1 hk1 hS => ?_)
    obtain ⟨hP1, hK1, hD1⟩ := hB
    rw [ht] at hP1
    obtain ⟨hP, hD⟩ := va_join (wr := [(ob, .inr (2, [.int obv0, .ref obb, .ref ob_2, .ref ob_3, .ref ob_4, .ref ob_5])), (ob_2, .inl (k 0, 32, .inl obg2)), (ob_3, .inl (k 0, 32, .inl obg3))]) (w1 := [(rw, .inr (8, [.ref rw_0, .ref rw_1, .ref rw_2, .int rwv3])), (rw_0, .inl (k 2, 240, .inr (.inl rwg0))), (rw_1, .inl (k 0, 4, .inl rwg1))]) hP hD [0, 1, 2] [3, 4, 5] rfl rfl (by decide +kernel) (by decide +kernel) hk1 hFc hP1 hD1
    clear hK1 hP1 hD1 hPc hDc hFc
    clear hk1 hz1 ht hvm
    have hP : va_P D vwCl [(ob, .inr (2, [.int obv0, .ref obb, .ref ob_2, .ref ob_3, .ref ob_4, .ref ob_5])), (ob_2, .inl (k 0, 32, .inl obg2)), (ob_3, .inl (k 0, 32, .inl obg3)), (rw, .inr (8, [.ref rw_0, .ref rw_1, .ref rw_2, .int rwv3])), (rw_0, .inl (k 2, 240, .inr (.inl rwg0))), (rw_1, .inl (k 0, 4, .inl rwg1))] H1 := hP
    have hD : va_D A [(ob, .inr (2, [.int obv0, .ref obb, .ref ob_2, .ref ob_3, .ref ob_4, .ref ob_5])), (ob_2, .inl (k 0, 32, .inl obg2)), (ob_3, .inl (k 0, 32, .inl obg3)), (rw, .inr (8, [.ref rw_0, .ref rw_1, .ref rw_2, .int rwv3])), (rw_0, .inl (k 2, 240, .inr (.inl rwg0))), (rw_1, .inl (k 0, 4, .inl rwg1))] := hD
    generalize H1 = H at hP hS ⊢
    have hw_21 : (NUMq rwg0 p1.toInt x_3.toInt (rwg1 p1.toNatClampNeg).toInt r_20) := hw
    have hw_22 := hw_21
    clear hw
    refine W.lcmp hx hb dX2_matches_47 ?_
    refine lv_if_eq (tgt := 53) hx hb dX2_matches_48 (by decide) (fun h_23 => ?_) (fun h_23 => ?_)
    · skip
      have zh_23 : r_16.toInt = r_20.toInt := zL_eq h_23 (Int32.toInt_toInt64 _) rfl
      obtain ⟨x_24, ex_24⟩ : ∃ y : Int32, y = L3l5 + 2 := ⟨_, rfl⟩
      have zx_24 : x_24.toInt = L3l5.toInt + 2 := by rw [ex_24]; exact z_add rfl rfl (by omega) (by omega)
      refine lv_iinc (v := x_24) (lv' := [(5, .int x_24), (6, .int x_12), (0, .ref ob), (1, .ref rw), (2, .int p1), (3, .int p2), (4, .int p3)]) hx hb dX2_matches_53 hl (k := 6) rfl (by rw [ex_24]; rfl) (by decide) rfl (fun ls hl => ?_)
      refine lv_goto (tgt := 3) hx hb dX2_matches_56 (by decide) ?_
      exact ih_1 _ _ _ _ (by omega) ⟨x_24, rfl, (show 0 ≤ x_24.toInt ∧ x_24.toInt ≤ 60 from by omega), (show x_24.toInt % 2 = 0 from by omega), hP.sub (ws' := [(ob, .inr (2, [.int obv0, .ref obb, .ref ob_2, .ref ob_3, .ref ob_4, .ref ob_5])), (ob_2, .inl (k 0, 32, .inl obg2)), (ob_3, .inl (k 0, 32, .inl obg3)), (rw, .inr (8, [.ref rw_0, .ref rw_1, .ref rw_2, .int rwv3])), (rw_0, .inl (k 2, 240, .inr (.inl rwg0))), (rw_1, .inl (k 0, 4, .inl rwg1))]) [0, 1, 2, 3, 4, 5] rfl, hD.sub (ws' := [(ob, .inr (2, [.int obv0, .ref obb, .ref ob_2, .ref ob_3, .ref ob_4, .ref ob_5])), (ob_2, .inl (k 0, 32, .inl obg2)), (ob_3, .inl (k 0, 32, .inl obg3)), (rw, .inr (8, [.ref rw_0, .ref rw_1, .ref rw_2, .int rwv3])), (rw_0, .inl (k 2, 240, .inr (.inl rwg0))), (rw_1, .inl (k 0, 4, .inl rwg1))]) [0, 1, 2, 3, 4, 5] (by decide +kernel) rfl, hS, lv_sub hl [2, 3, 4, 5, 6, 0] rfl⟩
    · skip
      have zh_23 : ¬ r_16.toInt = r_20.toInt := zL_ne h_23 (Int32.toInt_toInt64 _) rfl
      refine lv_iconst (v := 0) hx hb dX2_matches_51 (by decide) ?_
      obtain ⟨hP9, hD9⟩ := sub2 hP hD (ws' := [(ob, .inr (2, [.int obv0, .ref obb, .ref ob_2, .ref ob_3, .ref ob_4, .ref ob_5])), (ob_2, .inl (k 0, 32, .inl obg2)), (ob_3, .inl (k 0, 32, .inl obg3)), (rw, .inr (8, [.ref rw_0, .ref rw_1, .ref rw_2, .int rwv3])), (rw_0, .inl (k 2, 240, .inr (.inl rwg0))), (rw_1, .inl (k 0, 4, .inl rwg1))]) [0, 1, 2, 3, 4, 5] (by decide +kernel) rfl
      exact W.zret (v := 0) hx hb hr (by decide) (fun tZ ht hW => ⟨⟨0, (), rfl, (show 0 ≤ 0 ∧ 0 ≤ 1 from by omega), by rw [ht]; exact hP9, va_K.moved hW.alike hK, hD9⟩, hS.F ht⟩) hS.2.2 dX2_matches_52
set_option maxHeartbeats 4000000 in
set_option maxRecDepth 100000 in
theorem c_X2_match (l : Launch) (D : va_G) (k : Nat → ClassId) (ob : Nat) (tn : Nat) (rw : Nat) (p2 : Int32) (obv0 : Int32) (obb : Nat) (ob_2 : Nat) (ob_3 : Nat) (ob_4 : Nat) (ob_5 : Nat) (obb_0 : Nat) (obbv1 : Int32) (obbv2 : Int32) (obbg0 : Nat → Int32) (obg2 : Nat → Int32) (obg3 : Nat → Int32) (obg4 : Nat → Int32) (tnv0 : Int32) (tnv1 : Int32) (tnv2 : Int32) (tn_3 : Nat) (tn_4 : Nat) (tn_5 : Nat) (tn_6 : Nat) (tnv7 : Int32) (tnv8 : Int32) (tn_9 : Nat) (tn_10 : Nat) (tnv11 : Int32) (tn_12 : Nat) (tn_13 : Nat) (tn_14 : Nat) (tn_15 : Nat) (tnv16 : Int32) (tn_17 : Nat) (tn_18 : Nat) (tnt : Nat) (tng3 : Nat → Int32) (tng4 : Nat → Int32) (tng5 : Nat → Int32) (tng9 : Nat → Int32) (tng10 : Nat → Int32) (rw_0 : Nat) (rw_1 : Nat) (rw_2 : Nat) (rwv3 : Int32) (rwg0 : Nat → Int64) (rwg1 : Nat → Int32) (sz : Nat) (h_p2 : 0 ≤ p2.toInt ∧ p2.toInt ≤ 3) (hp_obbg0_0 : PR 8 1 0 0 1000000 obbg0) (hp_obg2_0 : PR 32 1 0 0 1000000 obg2) (hp_obg3_0 : PR 32 1 0 0 1000000 obg3) (h_tnv0 : 0 ≤ tnv0.toInt ∧ tnv0.toInt ≤ 8) (h_tnv2 : 0 ≤ tnv2.toInt ∧ tnv2.toInt ≤ 10) (h_tnv8 : 0 ≤ tnv8.toInt ∧ tnv8.toInt ≤ 4) (h_tnv11 : 0 ≤ tnv11.toInt ∧ tnv11.toInt ≤ 6) (h_tnv16 : 0 ≤ tnv16.toInt ∧ tnv16.toInt ≤ 2) (hp_tng3_0 : PR 10 1 0 0 7 tng3) (hp_tng4_0 : PR 10 1 0 0 7 tng4) (hp_tng5_0 : PR 10 1 0 0 60 tng5) (hp_tng9_0 : PR 4 1 0 0 7 tng9) (hp_tng10_0 : PR 4 1 0 0 99 tng10) (hp_rwg1_0 : PR 4 1 0 0 60 rwg1) (hWN : WNi rwg0 p2.toInt (rwg1 p2.toNatClampNeg).toInt) : Met l yX2_match (ww yX2_match cX2_match 6 none) ({ frames := 4, cells := 0, slots := 0, locals := 99 }) (Pre0 D k [(ob, .inr (2, [.int obv0, .ref obb, .ref ob_2, .ref ob_3, .ref ob_4, .ref ob_5])), (obb, .inr (1, [.ref obb_0, .int obbv1, .int obbv2])), (obb_0, .inl (k 0, 8, .inl obbg0)), (ob_2, .inl (k 0, 32, .inl obg2)), (ob_3, .inl (k 0, 32, .inl obg3)), (ob_4, .inl (k 3, 400, .inl obg4)), (tn, .inr (10, [.int tnv0, .int tnv1, .int tnv2, .ref tn_3, .ref tn_4, .ref tn_5, .ref tn_6, .int tnv7, .int tnv8, .ref tn_9, .ref tn_10, .int tnv11, .ref tn_12, .ref tn_13, .ref tn_14, .ref tn_15, .int tnv16, .ref tn_17, .ref tn_18, .ref tnt])), (tn_3, .inl (k 0, 10, .inl tng3)), (tn_4, .inl (k 0, 10, .inl tng4)), (tn_5, .inl (k 0, 10, .inl tng5)), (tn_9, .inl (k 0, 4, .inl tng9)), (tn_10, .inl (k 0, 4, .inl tng10)), (rw, .inr (8, [.ref rw_0, .ref rw_1, .ref rw_2, .int rwv3])), (rw_0, .inl (k 2, 240, .inr (.inl rwg0))), (rw_1, .inl (k 0, 4, .inl rwg1))] sz [.ref ob, .ref tn, .ref rw, .int p2]) (va_Qv (fun (u : Int32 × Int32 × Int32 × (Nat → Int32) × (Nat → Int32) × (Nat → Int32) × (Nat → Int32)) => match u with | (obv0z, obbv1z, obbv2z, obbg0z, obg2z, obg3z, obg4z) => (PR 8 1 0 0 1000000 obbg0z) ∧ (PR 32 1 0 0 1000000 obg2z) ∧ (PR 32 1 0 0 1000000 obg3z)) (fun (u : Int32 × Int32 × Int32 × (Nat → Int32) × (Nat → Int32) × (Nat → Int32) × (Nat → Int32)) tZ => match u with | (obv0z, obbv1z, obbv2z, obbg0z, obg2z, obg3z, obg4z) => Bw D k (va_A [(ob, .inr (2, [.int obv0, .ref obb, .ref ob_2, .ref ob_3, .ref ob_4, .ref ob_5])), (obb, .inr (1, [.ref obb_0, .int obbv1, .int obbv2])), (obb_0, .inl (k 0, 8, .inl obbg0)), (ob_2, .inl (k 0, 32, .inl obg2)), (ob_3, .inl (k 0, 32, .inl obg3)), (ob_4, .inl (k 3, 400, .inl obg4)), (tn, .inr (10, [.int tnv0, .int tnv1, .int tnv2, .ref tn_3, .ref tn_4, .ref tn_5, .ref tn_6, .int tnv7, .int tnv8, .ref tn_9, .ref tn_10, .int tnv11, .ref tn_12, .ref tn_13, .ref tn_14, .ref tn_15, .int tnv16, .ref tn_17, .ref tn_18, .ref tnt])), (tn_3, .inl (k 0, 10, .inl tng3)), (tn_4, .inl (k 0, 10, .inl tng4)), (tn_5, .inl (k 0, 10, .inl tng5)), (tn_9, .inl (k 0, 4, .inl tng9)), (tn_10, .inl (k 0, 4, .inl tng10)), (rw, .inr (8, [.ref rw_0, .ref rw_1, .ref rw_2, .int rwv3])), (rw_0, .inl (k 2, 240, .inr (.inl rwg0))), (rw_1, .inl (k 0, 4, .inl rwg1))] sz) [(ob, .inr (2, [.int obv0z, .ref obb, .ref ob_2, .ref ob_3, .ref ob_4, .ref ob_5])), (obb, .inr (1, [.ref obb_0, .int obbv1z, .int obbv2z])), (obb_0, .inl (k 0, 8, .inl obbg0z)), (ob_2, .inl (k 0, 32, .inl obg2z)), (ob_3, .inl (k 0, 32, .inl obg3z)), (ob_4, .inl (k 3, 400, .inl obg4z)), (tn, .inr (10, [.int tnv0, .int tnv1, .int tnv2, .ref tn_3, .ref tn_4, .ref tn_5, .ref tn_6, .int tnv7, .int tnv8, .ref tn_9, .ref tn_10, .int tnv11, .ref tn_12, .ref tn_13, .ref tn_14, .ref tn_15, .int tnv16, .ref tn_17, .ref tn_18, .ref tnt])), (tn_3, .inl (k 0, 10, .inl tng3)), (tn_4, .inl (k 0, 10, .inl tng4)), (tn_5, .inl (k 0, 10, .inl tng5)), (tn_9, .inl (k 0, 4, .inl tng9)), (tn_10, .inl (k 0, 4, .inl tng10)), (rw, .inr (8, [.ref rw_0, .ref rw_1, .ref rw_2, .int rwv3])), (rw_0, .inl (k 2, 240, .inr (.inl rwg0))), (rw_1, .inl (k 0, 4, .inl rwg1))] tZ) (va_A [(ob, .inr (2, [.int obv0, .ref obb, .ref ob_2, .ref ob_3, .ref ob_4, .ref ob_5])), (obb, .inr (1, [.ref obb_0, .int obbv1, .int obbv2])), (obb_0, .inl (k 0, 8, .inl obbg0)), (ob_2, .inl (k 0, 32, .inl obg2)), (ob_3, .inl (k 0, 32, .inl obg3)), (ob_4, .inl (k 3, 400, .inl obg4)), (tn, .inr (10, [.int tnv0, .int tnv1, .int tnv2, .ref tn_3, .ref tn_4, .ref tn_5, .ref tn_6, .int tnv7, .int tnv8, .ref tn_9, .ref tn_10, .int tnv11, .ref tn_12, .ref tn_13, .ref tn_14, .ref tn_15, .int tnv16, .ref tn_17, .ref tn_18, .ref tnt])), (tn_3, .inl (k 0, 10, .inl tng3)), (tn_4, .inl (k 0, 10, .inl tng4)), (tn_5, .inl (k 0, 10, .inl tng5)), (tn_9, .inl (k 0, 4, .inl tng9)), (tn_10, .inl (k 0, 4, .inl tng10)), (rw, .inr (8, [.ref rw_0, .ref rw_1, .ref rw_2, .int rwv3])), (rw_0, .inl (k 2, 240, .inr (.inl rwg0))), (rw_1, .inl (k 0, 4, .inl rwg1))] sz)) 0 0 (va_A [(ob, .inr (2, [.int obv0, .ref obb, .ref ob_2, .ref ob_3, .ref ob_4, .ref ob_5])), (obb, .inr (1, [.ref obb_0, .int obbv1, .int obbv2])), (obb_0, .inl (k 0, 8, .inl obbg0)), (ob_2, .inl (k 0, 32, .inl obg2)), (ob_3, .inl (k 0, 32, .inl obg3)), (ob_4, .inl (k 3, 400, .inl obg4)), (tn, .inr (10, [.int tnv0, .int tnv1, .int tnv2, .ref tn_3, .ref tn_4, .ref tn_5, .ref tn_6, .int tnv7, .int tnv8, .ref tn_9, .ref tn_10, .int tnv11, .ref tn_12, .ref tn_13, .ref tn_14, .ref tn_15, .int tnv16, .ref tn_17, .ref tn_18, .ref tnt])), (tn_3, .inl (k 0, 10, .inl tng3)), (tn_4, .inl (k 0, 10, .inl tng4)), (tn_5, .inl (k 0, 10, .inl tng5)), (tn_9, .inl (k 0, 4, .inl tng9)), (tn_10, .inl (k 0, 4, .inl tng10)), (rw, .inr (8, [.ref rw_0, .ref rw_1, .ref rw_2, .int rwv3])), (rw_0, .inl (k 2, 240, .inr (.inl rwg0))), (rw_1, .inl (k 0, 4, .inl rwg1))] sz) := by
  refine Met.ofW (cc := cX2_match) (maxL := 6) (ret := none) (by decide +kernel) rfl ?_
  intro p e s m args below meth c s₁ B hml hv
  obtain ⟨rfl, hsz, hP, hK, hD0, hN⟩ := hv
  have hx := B.exec
  have hb := B.bytes
  have hr := B.returns
  have hts : ∀ w ∈ TT, w.before _ s = true := fun w h => atoms_spec (ws := ww yX2_match cX2_match 6 none) B.pre w (List.mem_cons_of_mem _ h)
  have hown : s.vm.findClass RX2 = some m.cls := findClass_of_methodNamed B.named
  have hlocks := B.notSynchronized
  subst hsz
  have hD := hD0.self (sz := s.heap.size)
  generalize hAe : va_A [(ob, .inr (2, [.int obv0, .ref obb, .ref ob_2, .ref ob_3, .ref ob_4, .ref ob_5])), (obb, .inr (1, [.ref obb_0, .int obbv1, .int obbv2])), (obb_0, .inl (k 0, 8, .inl obbg0)), (ob_2, .inl (k 0, 32, .inl obg2)), (ob_3, .inl (k 0, 32, .inl obg3)), (ob_4, .inl (k 3, 400, .inl obg4)), (tn, .inr (10, [.int tnv0, .int tnv1, .int tnv2, .ref tn_3, .ref tn_4, .ref tn_5, .ref tn_6, .int tnv7, .int tnv8, .ref tn_9, .ref tn_10, .int tnv11, .ref tn_12, .ref tn_13, .ref tn_14, .ref tn_15, .int tnv16, .ref tn_17, .ref tn_18, .ref tnt])), (tn_3, .inl (k 0, 10, .inl tng3)), (tn_4, .inl (k 0, 10, .inl tng4)), (tn_5, .inl (k 0, 10, .inl tng5)), (tn_9, .inl (k 0, 4, .inl tng9)), (tn_10, .inl (k 0, 4, .inl tng10)), (rw, .inr (8, [.ref rw_0, .ref rw_1, .ref rw_2, .int rwv3])), (rw_0, .inl (k 2, 240, .inr (.inl rwg0))), (rw_1, .inl (k 0, 4, .inl rwg1))] s.heap.size = A at hD ⊢
  have hA : ∀ q : Nat, s.heap.size ≤ q → A q := fun q h => by rw [← hAe]; exact Or.inr h
  have hS : va_S A s.heap s.heap [] := va_S.rf
  have hl := lv_entry ([.ref ob, .ref tn, .ref rw, .int p2]) (n := 6) (Nat.le_of_ble_eq_true rfl)
  rw [lg_entry_eq]
  generalize (lg_sl ([.ref ob, .ref tn, .ref rw, .int p2]) ++ List.replicate (6 - (lg_sl ([.ref ob, .ref tn, .ref rw, .int p2])).length) Slot.unset).toArray = ls at hl ⊢
  have hl : lv_has ls 6 [(0, .ref ob), (1, .ref tn), (2, .ref rw), (3, .int p2)] := hl
  refine lv_aload_n hx hb dX2_match_0 rfl (lv_at hl 0 rfl) ?_
  refine lv_iconst (v := 0) hx hb dX2_match_1 (by decide) ?_
  refine va_put (D := D) (ci := 2) (v := .int 0) (ty := tyX2 0) (C := RX2) (T := TX2) (N := 6) hx hb hts iT_X2 tyX2 tyX2_ok nmX2 hown hK hP hD hS 0 rfl rfl 0 (by decide) (hts _ tw_2_96) (fun _ h9 => h9) rfl (tyX2_ok 0 (by decide)) rfl rfl (Nat.le_of_ble_eq_true rfl) dX2_match_2 (fun H locs hP hD hS => ?_)
  have hP : va_P D vwCl [(ob, .inr (2, [.int 0, .ref obb, .ref ob_2, .ref ob_3, .ref ob_4, .ref ob_5])), (obb, .inr (1, [.ref obb_0, .int obbv1, .int obbv2])), (obb_0, .inl (k 0, 8, .inl obbg0)), (ob_2, .inl (k 0, 32, .inl obg2)), (ob_3, .inl (k 0, 32, .inl obg3)), (ob_4, .inl (k 3, 400, .inl obg4)), (tn, .inr (10, [.int tnv0, .int tnv1, .int tnv2, .ref tn_3, .ref tn_4, .ref tn_5, .ref tn_6, .int tnv7, .int tnv8, .ref tn_9, .ref tn_10, .int tnv11, .ref tn_12, .ref tn_13, .ref tn_14, .ref tn_15, .int tnv16, .ref tn_17, .ref tn_18, .ref tnt])), (tn_3, .inl (k 0, 10, .inl tng3)), (tn_4, .inl (k 0, 10, .inl tng4)), (tn_5, .inl (k 0, 10, .inl tng5)), (tn_9, .inl (k 0, 4, .inl tng9)), (tn_10, .inl (k 0, 4, .inl tng10)), (rw, .inr (8, [.ref rw_0, .ref rw_1, .ref rw_2, .int rwv3])), (rw_0, .inl (k 2, 240, .inr (.inl rwg0))), (rw_1, .inl (k 0, 4, .inl rwg1))] H := hP
  have hD : va_D A [(ob, .inr (2, [.int 0, .ref obb, .ref ob_2, .ref ob_3, .ref ob_4, .ref ob_5])), (obb, .inr (1, [.ref obb_0, .int obbv1, .int obbv2])), (obb_0, .inl (k 0, 8, .inl obbg0)), (ob_2, .inl (k 0, 32, .inl obg2)), (ob_3, .inl (k 0, 32, .inl obg3)), (ob_4, .inl (k 3, 400, .inl obg4)), (tn, .inr (10, [.int tnv0, .int tnv1, .int tnv2, .ref tn_3, .ref tn_4, .ref tn_5, .ref tn_6, .int tnv7, .int tnv8, .ref tn_9, .ref tn_10, .int tnv11, .ref tn_12, .ref tn_13, .ref tn_14, .ref tn_15, .int tnv16, .ref tn_17, .ref tn_18, .ref tnt])), (tn_3, .inl (k 0, 10, .inl tng3)), (tn_4, .inl (k 0, 10, .inl tng4)), (tn_5, .inl (k 0, 10, .inl tng5)), (tn_9, .inl (k 0, 4, .inl tng9)), (tn_10, .inl (k 0, 4, .inl tng10)), (rw, .inr (8, [.ref rw_0, .ref rw_1, .ref rw_2, .int rwv3])), (rw_0, .inl (k 2, 240, .inr (.inl rwg0))), (rw_1, .inl (k 0, 4, .inl rwg1))] := hD
  refine lv_iconst (v := 0) hx hb dX2_match_5 (by decide) ?_
  refine lv_istore (lv' := [(4, .int 0), (0, .ref ob), (1, .ref tn), (2, .ref rw), (3, .int p2)]) hx hb dX2_match_6 hl (by decide) rfl (fun ls hl => ?_)
  refine loop_r (Wg := fun H locs ls => W p l e _ s m _ below meth c H locs _ _ _ (F0 m 8 ls [])) (fun n9 H locs ls => ∃ (L8l4 : Int32) (L8a5 : Nat → Int32), n9 = (400 - L8l4.toInt).toNat ∧ (0 ≤ L8l4.toInt ∧ L8l4.toInt ≤ 400) ∧ va_P D vwCl [(ob, .inr (2, [.int 0, .ref obb, .ref ob_2, .ref ob_3, .ref ob_4, .ref ob_5])), (obb, .inr (1, [.ref obb_0, .int obbv1, .int obbv2])), (obb_0, .inl (k 0, 8, .inl obbg0)), (ob_2, .inl (k 0, 32, .inl obg2)), (ob_3, .inl (k 0, 32, .inl obg3)), (ob_4, .inl (k 3, 400, .inl L8a5)), (tn, .inr (10, [.int tnv0, .int tnv1, .int tnv2, .ref tn_3, .ref tn_4, .ref tn_5, .ref tn_6, .int tnv7, .int tnv8, .ref tn_9, .ref tn_10, .int tnv11, .ref tn_12, .ref tn_13, .ref tn_14, .ref tn_15, .int tnv16, .ref tn_17, .ref tn_18, .ref tnt])), (tn_3, .inl (k 0, 10, .inl tng3)), (tn_4, .inl (k 0, 10, .inl tng4)), (tn_5, .inl (k 0, 10, .inl tng5)), (tn_9, .inl (k 0, 4, .inl tng9)), (tn_10, .inl (k 0, 4, .inl tng10)), (rw, .inr (8, [.ref rw_0, .ref rw_1, .ref rw_2, .int rwv3])), (rw_0, .inl (k 2, 240, .inr (.inl rwg0))), (rw_1, .inl (k 0, 4, .inl rwg1))] H ∧ va_D A [(ob, .inr (2, [.int 0, .ref obb, .ref ob_2, .ref ob_3, .ref ob_4, .ref ob_5])), (obb, .inr (1, [.ref obb_0, .int obbv1, .int obbv2])), (obb_0, .inl (k 0, 8, .inl obbg0)), (ob_2, .inl (k 0, 32, .inl obg2)), (ob_3, .inl (k 0, 32, .inl obg3)), (ob_4, .inl (k 3, 400, .inl L8a5)), (tn, .inr (10, [.int tnv0, .int tnv1, .int tnv2, .ref tn_3, .ref tn_4, .ref tn_5, .ref tn_6, .int tnv7, .int tnv8, .ref tn_9, .ref tn_10, .int tnv11, .ref tn_12, .ref tn_13, .ref tn_14, .ref tn_15, .int tnv16, .ref tn_17, .ref tn_18, .ref tnt])), (tn_3, .inl (k 0, 10, .inl tng3)), (tn_4, .inl (k 0, 10, .inl tng4)), (tn_5, .inl (k 0, 10, .inl tng5)), (tn_9, .inl (k 0, 4, .inl tng9)), (tn_10, .inl (k 0, 4, .inl tng10)), (rw, .inr (8, [.ref rw_0, .ref rw_1, .ref rw_2, .int rwv3])), (rw_0, .inl (k 2, 240, .inr (.inl rwg0))), (rw_1, .inl (k 0, 4, .inl rwg1))] ∧ va_S A s.heap H locs ∧ lv_has ls 6 [(0, .ref ob), (1, .ref tn), (2, .ref rw), (3, .int p2), (4, .int L8l4)]) (fun n9 H locs ls hI ih_1 => ?_) _ _ _ _ ⟨0, obg4, rfl, (show 0 ≤ 0 ∧ 0 ≤ 400 from by omega), hP.sub (ws' := [(ob, .inr (2, [.int 0, .ref obb, .ref ob_2, .ref ob_3, .ref ob_4, .ref ob_5])), (obb, .inr (1, [.ref obb_0, .int obbv1, .int obbv2])), (obb_0, .inl (k 0, 8, .inl obbg0)), (ob_2, .inl (k 0, 32, .inl obg2)), (ob_3, .inl (k 0, 32, .inl obg3)), (ob_4, .inl (k 3, 400, .inl obg4)), (tn, .inr (10, [.int tnv0, .int tnv1, .int tnv2, .ref tn_3, .ref tn_4, .ref tn_5, .ref tn_6, .int tnv7, .int tnv8, .ref tn_9, .ref tn_10, .int tnv11, .ref tn_12, .ref tn_13, .ref tn_14, .ref tn_15, .int tnv16, .ref tn_17, .ref tn_18, .ref tnt])), (tn_3, .inl (k 0, 10, .inl tng3)), (tn_4, .inl (k 0, 10, .inl tng4)), (tn_5, .inl (k 0, 10, .inl tng5)), (tn_9, .inl (k 0, 4, .inl tng9)), (tn_10, .inl (k 0, 4, .inl tng10)), (rw, .inr (8, [.ref rw_0, .ref rw_1, .ref rw_2, .int rwv3])), (rw_0, .inl (k 2, 240, .inr (.inl rwg0))), (rw_1, .inl (k 0, 4, .inl rwg1))]) [0, 1, 2, 3, 4, 5, 6, 7, 8, 9, 10, 11, 12, 13, 14] rfl, hD.sub (ws' := [(ob, .inr (2, [.int 0, .ref obb, .ref ob_2, .ref ob_3, .ref ob_4, .ref ob_5])), (obb, .inr (1, [.ref obb_0, .int obbv1, .int obbv2])), (obb_0, .inl (k 0, 8, .inl obbg0)), (ob_2, .inl (k 0, 32, .inl obg2)), (ob_3, .inl (k 0, 32, .inl obg3)), (ob_4, .inl (k 3, 400, .inl obg4)), (tn, .inr (10, [.int tnv0, .int tnv1, .int tnv2, .ref tn_3, .ref tn_4, .ref tn_5, .ref tn_6, .int tnv7, .int tnv8, .ref tn_9, .ref tn_10, .int tnv11, .ref tn_12, .ref tn_13, .ref tn_14, .ref tn_15, .int tnv16, .ref tn_17, .ref tn_18, .ref tnt])), (tn_3, .inl (k 0, 10, .inl tng3)), (tn_4, .inl (k 0, 10, .inl tng4)), (tn_5, .inl (k 0, 10, .inl tng5)), (tn_9, .inl (k 0, 4, .inl tng9)), (tn_10, .inl (k 0, 4, .inl tng10)), (rw, .inr (8, [.ref rw_0, .ref rw_1, .ref rw_2, .int rwv3])), (rw_0, .inl (k 2, 240, .inr (.inl rwg0))), (rw_1, .inl (k 0, 4, .inl rwg1))]) [0, 1, 2, 3, 4, 5, 6, 7, 8, 9, 10, 11, 12, 13, 14] (by decide +kernel) rfl, hS, lv_sub hl [1, 2, 3, 4, 0] rfl⟩
  clear hP hD hS hl
  obtain ⟨L8l4, L8a5, en_2, zL8l4, hP, hD, hS, hl⟩ := hI
  refine lv_iload hx hb dX2_match_8 (lv_at hl 4 rfl) ?_
  refine lv_sipush (v := 400) hx hb dX2_match_10 (by decide) ?_
  refine lv_icmp_ge (tgt := 30) hx hb dX2_match_13 (by decide) (fun h_3 => ?_) (fun h_3 => ?_)
  · skip
    have zh_3 : 400 ≤ L8l4.toInt := z_le h_3
    refine lv_iconst (v := 0) hx hb dX2_match_30 (by decide) ?_
    refine lv_istore (lv' := [(4, .int 0), (0, .ref ob), (1, .ref tn), (2, .ref rw), (3, .int p2)]) hx hb dX2_match_31 hl (by decide) rfl (fun ls hl => ?_)
    refine loop_r (Wg := fun H locs ls => W p l e _ s m _ below meth c H locs _ _ _ (F0 m 33 ls [])) (fun n9 H locs ls => ∃ (L33l4 : Int32) (L33f0x0 : Int32) (L33f1x1 : Int32) (L33f1x2 : Int32) (L33a2 : Nat → Int32) (L33a3 : Nat → Int32) (L33a4 : Nat → Int32) (L33a5 : Nat → Int32), n9 = (4 - L33l4.toInt).toNat ∧ (0 ≤ L33l4.toInt ∧ L33l4.toInt ≤ 4) ∧ (PR 8 1 0 0 1000000 L33a2) ∧ (PR 32 1 0 0 1000000 L33a3) ∧ (PR 32 1 0 0 1000000 L33a4) ∧ va_P D vwCl [(ob, .inr (2, [.int L33f0x0, .ref obb, .ref ob_2, .ref ob_3, .ref ob_4, .ref ob_5])), (obb, .inr (1, [.ref obb_0, .int L33f1x1, .int L33f1x2])), (obb_0, .inl (k 0, 8, .inl L33a2)), (ob_2, .inl (k 0, 32, .inl L33a3)), (ob_3, .inl (k 0, 32, .inl L33a4)), (ob_4, .inl (k 3, 400, .inl L33a5)), (tn, .inr (10, [.int tnv0, .int tnv1, .int tnv2, .ref tn_3, .ref tn_4, .ref tn_5, .ref tn_6, .int tnv7, .int tnv8, .ref tn_9, .ref tn_10, .int tnv11, .ref tn_12, .ref tn_13, .ref tn_14, .ref tn_15, .int tnv16, .ref tn_17, .ref tn_18, .ref tnt])), (tn_3, .inl (k 0, 10, .inl tng3)), (tn_4, .inl (k 0, 10, .inl tng4)), (tn_5, .inl (k 0, 10, .inl tng5)), (tn_9, .inl (k 0, 4, .inl tng9)), (tn_10, .inl (k 0, 4, .inl tng10)), (rw, .inr (8, [.ref rw_0, .ref rw_1, .ref rw_2, .int rwv3])), (rw_0, .inl (k 2, 240, .inr (.inl rwg0))), (rw_1, .inl (k 0, 4, .inl rwg1))] H ∧ va_D A [(ob, .inr (2, [.int L33f0x0, .ref obb, .ref ob_2, .ref ob_3, .ref ob_4, .ref ob_5])), (obb, .inr (1, [.ref obb_0, .int L33f1x1, .int L33f1x2])), (obb_0, .inl (k 0, 8, .inl L33a2)), (ob_2, .inl (k 0, 32, .inl L33a3)), (ob_3, .inl (k 0, 32, .inl L33a4)), (ob_4, .inl (k 3, 400, .inl L33a5)), (tn, .inr (10, [.int tnv0, .int tnv1, .int tnv2, .ref tn_3, .ref tn_4, .ref tn_5, .ref tn_6, .int tnv7, .int tnv8, .ref tn_9, .ref tn_10, .int tnv11, .ref tn_12, .ref tn_13, .ref tn_14, .ref tn_15, .int tnv16, .ref tn_17, .ref tn_18, .ref tnt])), (tn_3, .inl (k 0, 10, .inl tng3)), (tn_4, .inl (k 0, 10, .inl tng4)), (tn_5, .inl (k 0, 10, .inl tng5)), (tn_9, .inl (k 0, 4, .inl tng9)), (tn_10, .inl (k 0, 4, .inl tng10)), (rw, .inr (8, [.ref rw_0, .ref rw_1, .ref rw_2, .int rwv3])), (rw_0, .inl (k 2, 240, .inr (.inl rwg0))), (rw_1, .inl (k 0, 4, .inl rwg1))] ∧ va_S A s.heap H locs ∧ lv_has ls 6 [(0, .ref ob), (1, .ref tn), (2, .ref rw), (3, .int p2), (4, .int L33l4)]) (fun n9 H locs ls hI ih_4 => ?_) _ _ _ _ ⟨0, 0, obbv1, obbv2, obbg0, obg2, obg3, L8a5, rfl, (show 0 ≤ 0 ∧ 0 ≤ 4 from by omega), hp_obbg0_0, hp_obg2_0, hp_obg3_0, hP.sub (ws' := [(ob, .inr (2, [.int 0, .ref obb, .ref ob_2, .ref ob_3, .ref ob_4, .ref ob_5])), (obb, .inr (1, [.ref obb_0, .int obbv1, .int obbv2])), (obb_0, .inl (k 0, 8, .inl obbg0)), (ob_2, .inl (k 0, 32, .inl obg2)), (ob_3, .inl (k 0, 32, .inl obg3)), (ob_4, .inl (k 3, 400, .inl L8a5)), (tn, .inr (10, [.int tnv0, .int tnv1, .int tnv2, .ref tn_3, .ref tn_4, .ref tn_5, .ref tn_6, .int tnv7, .int tnv8, .ref tn_9, .ref tn_10, .int tnv11, .ref tn_12, .ref tn_13, .ref tn_14, .ref tn_15, .int tnv16, .ref tn_17, .ref tn_18, .ref tnt])), (tn_3, .inl (k 0, 10, .inl tng3)), (tn_4, .inl (k 0, 10, .inl tng4)), (tn_5, .inl (k 0, 10, .inl tng5)), (tn_9, .inl (k 0, 4, .inl tng9)), (tn_10, .inl (k 0, 4, .inl tng10)), (rw, .inr (8, [.ref rw_0, .ref rw_1, .ref rw_2, .int rwv3])), (rw_0, .inl (k 2, 240, .inr (.inl rwg0))), (rw_1, .inl (k 0, 4, .inl rwg1))]) [0, 1, 2, 3, 4, 5, 6, 7, 8, 9, 10, 11, 12, 13, 14] rfl, hD.sub (ws' := [(ob, .inr (2, [.int 0, .ref obb, .ref ob_2, .ref ob_3, .ref ob_4, .ref ob_5])), (obb, .inr (1, [.ref obb_0, .int obbv1, .int obbv2])), (obb_0, .inl (k 0, 8, .inl obbg0)), (ob_2, .inl (k 0, 32, .inl obg2)), (ob_3, .inl (k 0, 32, .inl obg3)), (ob_4, .inl (k 3, 400, .inl L8a5)), (tn, .inr (10, [.int tnv0, .int tnv1, .int tnv2, .ref tn_3, .ref tn_4, .ref tn_5, .ref tn_6, .int tnv7, .int tnv8, .ref tn_9, .ref tn_10, .int tnv11, .ref tn_12, .ref tn_13, .ref tn_14, .ref tn_15, .int tnv16, .ref tn_17, .ref tn_18, .ref tnt])), (tn_3, .inl (k 0, 10, .inl tng3)), (tn_4, .inl (k 0, 10, .inl tng4)), (tn_5, .inl (k 0, 10, .inl tng5)), (tn_9, .inl (k 0, 4, .inl tng9)), (tn_10, .inl (k 0, 4, .inl tng10)), (rw, .inr (8, [.ref rw_0, .ref rw_1, .ref rw_2, .int rwv3])), (rw_0, .inl (k 2, 240, .inr (.inl rwg0))), (rw_1, .inl (k 0, 4, .inl rwg1))]) [0, 1, 2, 3, 4, 5, 6, 7, 8, 9, 10, 11, 12, 13, 14] (by decide +kernel) rfl, hS, lv_sub hl [1, 2, 3, 4, 0] rfl⟩
    clear hP hD hS hl
    obtain ⟨L33l4, L33f0x0, L33f1x1, L33f1x2, L33a2, L33a3, L33a4, L33a5, en_5, zL33l4, L33a2h0, L33a3h0, L33a4h0, hP, hD, hS, hl⟩ := hI
    refine lv_iload hx hb dX2_match_33 (lv_at hl 4 rfl) ?_
    refine lv_aload_n hx hb dX2_match_35 rfl (lv_at hl 1 rfl) ?_
    refine va_get (D := D) (ci := 10) (v := .int tnv8) (C := RX10) (T := TX10) (N := 20) hx hb hts iT_X10 hown hK hP 6 rfl rfl 8 (by decide) (hts _ tw_1_105) (fun _ h9 => h9) rfl dX2_match_36 ?_
    refine lv_icmp_ge (tgt := 108) hx hb dX2_match_39 (by decide) (fun h_6 => ?_) (fun h_6 => ?_)
    · skip
      have zh_6 : tnv8.toInt ≤ L33l4.toInt := z_le h_6
      obtain ⟨hP9, hD9⟩ := sub2 hP hD (ws' := [(ob, .inr (2, [.int L33f0x0, .ref obb, .ref ob_2, .ref ob_3, .ref ob_4, .ref ob_5])), (obb, .inr (1, [.ref obb_0, .int L33f1x1, .int L33f1x2])), (obb_0, .inl (k 0, 8, .inl L33a2)), (ob_2, .inl (k 0, 32, .inl L33a3)), (ob_3, .inl (k 0, 32, .inl L33a4)), (ob_4, .inl (k 3, 400, .inl L33a5)), (tn, .inr (10, [.int tnv0, .int tnv1, .int tnv2, .ref tn_3, .ref tn_4, .ref tn_5, .ref tn_6, .int tnv7, .int tnv8, .ref tn_9, .ref tn_10, .int tnv11, .ref tn_12, .ref tn_13, .ref tn_14, .ref tn_15, .int tnv16, .ref tn_17, .ref tn_18, .ref tnt])), (tn_3, .inl (k 0, 10, .inl tng3)), (tn_4, .inl (k 0, 10, .inl tng4)), (tn_5, .inl (k 0, 10, .inl tng5)), (tn_9, .inl (k 0, 4, .inl tng9)), (tn_10, .inl (k 0, 4, .inl tng10)), (rw, .inr (8, [.ref rw_0, .ref rw_1, .ref rw_2, .int rwv3])), (rw_0, .inl (k 2, 240, .inr (.inl rwg0))), (rw_1, .inl (k 0, 4, .inl rwg1))]) [0, 1, 2, 3, 4, 5, 6, 7, 8, 9, 10, 11, 12, 13, 14] (by decide +kernel) rfl
      exact W.vret hx hb hr (fun tZ ht hW => ⟨⟨(L33f0x0, L33f1x1, L33f1x2, L33a2, L33a3, L33a4, L33a5), rfl, ⟨L33a2h0, L33a3h0, L33a4h0⟩, by rw [ht]; exact hP9, va_K.moved hW.alike hK, hD9⟩, hS.F ht⟩) hS.2.2 dX2_match_108
    · skip
      have zh_6 : L33l4.toInt < tnv8.toInt := z_nle h_6
      refine lv_aload_n hx hb dX2_match_42 rfl (lv_at hl 0 rfl) ?_
      refine lv_aload_n hx hb dX2_match_43 rfl (lv_at hl 1 rfl) ?_
      refine lv_iload hx hb dX2_match_44 (lv_at hl 4 rfl) ?_
      obtain ⟨hPc, hDc, hFc⟩ := sub3 hP hD hS hA (ws' := [(ob, .inr (2, [.int L33f0x0, .ref obb, .ref ob_2, .ref ob_3, .ref ob_4, .ref ob_5])), (obb, .inr (1, [.ref obb_0, .int L33f1x1, .int L33f1x2])), (obb_0, .inl (k 0, 8, .inl L33a2)), (ob_2, .inl (k 0, 32, .inl L33a3)), (ob_3, .inl (k 0, 32, .inl L33a4)), (tn, .inr (10, [.int tnv0, .int tnv1, .int tnv2, .ref tn_3, .ref tn_4, .ref tn_5, .ref tn_6, .int tnv7, .int tnv8, .ref tn_9, .ref tn_10, .int tnv11, .ref tn_12, .ref tn_13, .ref tn_14, .ref tn_15, .int tnv16, .ref tn_17, .ref tn_18, .ref tnt])), (tn_3, .inl (k 0, 10, .inl tng3)), (tn_4, .inl (k 0, 10, .inl tng4)), (tn_5, .inl (k 0, 10, .inl tng5)), (tn_9, .inl (k 0, 4, .inl tng9)), (tn_10, .inl (k 0, 4, .inl tng10))]) [0, 1, 2, 3, 4, 6, 7, 8, 9, 10, 11] (by decide +kernel) rfl
      refine va_callv (va_runV (C := RX2) (As := [.ref tn, .int L33l4]) (rest := []) ⟨hx, hb, hml, hown, hts⟩ (c_X2_learnGate l D k ob tn L33l4 L33f0x0 obb ob_2 ob_3 ob_4 ob_5 obb_0 L33f1x1 L33f1x2 L33a2 L33a3 L33a4 tnv0 tnv1 tnv2 tn_3 tn_4 tn_5 tn_6 tnv7 tnv8 tn_9 tn_10 tnv11 tn_12 tn_13 tn_14 tn_15 tnv16 tn_17 tn_18 tnt tng3 tng4 tng5 tng9 tng10 H.size (show 0 ≤ L33l4.toInt ∧ L33l4.toInt ≤ 3 from by omega) L33a2h0 L33a3h0 L33a4h0 (show 0 ≤ tnv0.toInt ∧ tnv0.toInt ≤ 8 from by omega) (show 0 ≤ tnv2.toInt ∧ tnv2.toInt ≤ 10 from by omega) (show 0 ≤ tnv8.toInt ∧ tnv8.toInt ≤ 4 from by omega) (show 0 ≤ tnv11.toInt ∧ tnv11.toInt ≤ 6 from by omega) (show 0 ≤ tnv16.toInt ∧ tnv16.toInt ≤ 2 from by omega) hp_tng3_0 hp_tng4_0 hp_tng5_0 hp_tng9_0 hp_tng10_0) (cwV 2 hts (gV tw_4_193 tw_4_170 tw_4_171 tw_1_9 tw_4_172) rfl rfl rfl hdV_X2_learnGate ⟨Nat.le_of_ble_eq_true rfl, Nat.le_of_ble_eq_true rfl⟩) (cz_V hK hPc hDc hN (ci := 2) (q0 := 0) rfl rfl [.ref tn, .int L33l4]) rfl rfl hl.1 rfl (lv_room (Nat.le_of_ble_eq_true rfl)) dX2_match_46 ⟨Nat.le_of_ble_eq_true rfl, Nat.le_of_ble_eq_true rfl⟩) hS (fun q _ h => hFc q h) hFc (fun uZ tZ H1 locs ht hvm hw hB hz1 hk1 hS => ?_)
      obtain ⟨o_8, o_9, o_10, o_11, o_12⟩ := uZ
      obtain ⟨hP1, hK1, hD1⟩ := hB
      rw [ht] at hP1
      obtain ⟨hP, hD⟩ := va_join (wr := [(ob_4, .inl (k 3, 400, .inl L33a5)), (rw, .inr (8, [.ref rw_0, .ref rw_1, .ref rw_2, .int rwv3])), (rw_0, .inl (k 2, 240, .inr (.inl rwg0))), (rw_1, .inl (k 0, 4, .inl rwg1))]) (w1 := [(ob, .inr (2, [.int L33f0x0, .ref obb, .ref ob_2, .ref ob_3, .ref ob_4, .ref ob_5])), (obb, .inr (1, [.ref obb_0, .int o_8, .int o_9])), (obb_0, .inl (k 0, 8, .inl o_10)), (ob_2, .inl (k 0, 32, .inl o_11)), (ob_3, .inl (k 0, 32, .inl o_12)), (tn, .inr (10, [.int tnv0, .int tnv1, .int tnv2, .ref tn_3, .ref tn_4, .ref tn_5, .ref tn_6, .int tnv7, .int tnv8, .ref tn_9, .ref tn_10, .int tnv11, .ref tn_12, .ref tn_13, .ref tn_14, .ref tn_15, .int tnv16, .ref tn_17, .ref tn_18, .ref tnt])), (tn_3, .inl (k 0, 10, .inl tng3)), (tn_4, .inl (k 0, 10, .inl tng4)), (tn_5, .inl (k 0, 10, .inl tng5)), (tn_9, .inl (k 0, 4, .inl tng9)), (tn_10, .inl (k 0, 4, .inl tng10))]) hP hD [0, 1, 2, 3, 4, 6, 7, 8, 9, 10, 11] [5, 12, 13, 14] rfl rfl (by decide +kernel) (by decide +kernel) hk1 hFc hP1 hD1
      clear hK1 hP1 hD1 hPc hDc hFc
      clear hk1 hz1 ht hvm
      have hP : va_P D vwCl [(ob_4, .inl (k 3, 400, .inl L33a5)), (rw, .inr (8, [.ref rw_0, .ref rw_1, .ref rw_2, .int rwv3])), (rw_0, .inl (k 2, 240, .inr (.inl rwg0))), (rw_1, .inl (k 0, 4, .inl rwg1)), (ob, .inr (2, [.int L33f0x0, .ref obb, .ref ob_2, .ref ob_3, .ref ob_4, .ref ob_5])), (obb, .inr (1, [.ref obb_0, .int o_8, .int o_9])), (obb_0, .inl (k 0, 8, .inl o_10)), (ob_2, .inl (k 0, 32, .inl o_11)), (ob_3, .inl (k 0, 32, .inl o_12)), (tn, .inr (10, [.int tnv0, .int tnv1, .int tnv2, .ref tn_3, .ref tn_4, .ref tn_5, .ref tn_6, .int tnv7, .int tnv8, .ref tn_9, .ref tn_10, .int tnv11, .ref tn_12, .ref tn_13, .ref tn_14, .ref tn_15, .int tnv16, .ref tn_17, .ref tn_18, .ref tnt])), (tn_3, .inl (k 0, 10, .inl tng3)), (tn_4, .inl (k 0, 10, .inl tng4)), (tn_5, .inl (k 0, 10, .inl tng5)), (tn_9, .inl (k 0, 4, .inl tng9)), (tn_10, .inl (k 0, 4, .inl tng10))] H1 := hP
      have hD : va_D A [(ob_4, .inl (k 3, 400, .inl L33a5)), (rw, .inr (8, [.ref rw_0, .ref rw_1, .ref rw_2, .int rwv3])), (rw_0, .inl (k 2, 240, .inr (.inl rwg0))), (rw_1, .inl (k 0, 4, .inl rwg1)), (ob, .inr (2, [.int L33f0x0, .ref obb, .ref ob_2, .ref ob_3, .ref ob_4, .ref ob_5])), (obb, .inr (1, [.ref obb_0, .int o_8, .int o_9])), (obb_0, .inl (k 0, 8, .inl o_10)), (ob_2, .inl (k 0, 32, .inl o_11)), (ob_3, .inl (k 0, 32, .inl o_12)), (tn, .inr (10, [.int tnv0, .int tnv1, .int tnv2, .ref tn_3, .ref tn_4, .ref tn_5, .ref tn_6, .int tnv7, .int tnv8, .ref tn_9, .ref tn_10, .int tnv11, .ref tn_12, .ref tn_13, .ref tn_14, .ref tn_15, .int tnv16, .ref tn_17, .ref tn_18, .ref tnt])), (tn_3, .inl (k 0, 10, .inl tng3)), (tn_4, .inl (k 0, 10, .inl tng4)), (tn_5, .inl (k 0, 10, .inl tng5)), (tn_9, .inl (k 0, 4, .inl tng9)), (tn_10, .inl (k 0, 4, .inl tng10))] := hD
      generalize H1 = H at hP hS ⊢
      have hw_13 : (PR 8 1 0 0 1000000 o_10) ∧ (PR 32 1 0 0 1000000 o_11) ∧ (PR 32 1 0 0 1000000 o_12) := hw
      obtain ⟨hw_14, hw_15, hw_16⟩ := hw_13
      clear hw
      refine lv_iconst (v := 0) hx hb dX2_match_49 (by decide) ?_
      refine lv_istore (lv' := [(5, .int 0), (0, .ref ob), (1, .ref tn), (2, .ref rw), (3, .int p2), (4, .int L33l4)]) hx hb dX2_match_50 hl (by decide) rfl (fun ls hl => ?_)
      refine loop_r (Wg := fun H locs ls => W p l e _ s m _ below meth c H locs _ _ _ (F0 m 52 ls [])) (fun n9 H locs ls => ∃ (L52l5 : Int32) (L52a0 : Nat → Int32) (L52f4x0 : Int32), n9 = (100 - L52l5.toInt).toNat ∧ (0 ≤ L52l5.toInt ∧ L52l5.toInt ≤ 100) ∧ va_P D vwCl [(ob_4, .inl (k 3, 400, .inl L52a0)), (rw, .inr (8, [.ref rw_0, .ref rw_1, .ref rw_2, .int rwv3])), (rw_0, .inl (k 2, 240, .inr (.inl rwg0))), (rw_1, .inl (k 0, 4, .inl rwg1)), (ob, .inr (2, [.int L52f4x0, .ref obb, .ref ob_2, .ref ob_3, .ref ob_4, .ref ob_5])), (obb, .inr (1, [.ref obb_0, .int o_8, .int o_9])), (obb_0, .inl (k 0, 8, .inl o_10)), (ob_2, .inl (k 0, 32, .inl o_11)), (ob_3, .inl (k 0, 32, .inl o_12)), (tn, .inr (10, [.int tnv0, .int tnv1, .int tnv2, .ref tn_3, .ref tn_4, .ref tn_5, .ref tn_6, .int tnv7, .int tnv8, .ref tn_9, .ref tn_10, .int tnv11, .ref tn_12, .ref tn_13, .ref tn_14, .ref tn_15, .int tnv16, .ref tn_17, .ref tn_18, .ref tnt])), (tn_3, .inl (k 0, 10, .inl tng3)), (tn_4, .inl (k 0, 10, .inl tng4)), (tn_5, .inl (k 0, 10, .inl tng5)), (tn_9, .inl (k 0, 4, .inl tng9)), (tn_10, .inl (k 0, 4, .inl tng10))] H ∧ va_D A [(ob_4, .inl (k 3, 400, .inl L52a0)), (rw, .inr (8, [.ref rw_0, .ref rw_1, .ref rw_2, .int rwv3])), (rw_0, .inl (k 2, 240, .inr (.inl rwg0))), (rw_1, .inl (k 0, 4, .inl rwg1)), (ob, .inr (2, [.int L52f4x0, .ref obb, .ref ob_2, .ref ob_3, .ref ob_4, .ref ob_5])), (obb, .inr (1, [.ref obb_0, .int o_8, .int o_9])), (obb_0, .inl (k 0, 8, .inl o_10)), (ob_2, .inl (k 0, 32, .inl o_11)), (ob_3, .inl (k 0, 32, .inl o_12)), (tn, .inr (10, [.int tnv0, .int tnv1, .int tnv2, .ref tn_3, .ref tn_4, .ref tn_5, .ref tn_6, .int tnv7, .int tnv8, .ref tn_9, .ref tn_10, .int tnv11, .ref tn_12, .ref tn_13, .ref tn_14, .ref tn_15, .int tnv16, .ref tn_17, .ref tn_18, .ref tnt])), (tn_3, .inl (k 0, 10, .inl tng3)), (tn_4, .inl (k 0, 10, .inl tng4)), (tn_5, .inl (k 0, 10, .inl tng5)), (tn_9, .inl (k 0, 4, .inl tng9)), (tn_10, .inl (k 0, 4, .inl tng10))] ∧ va_S A s.heap H locs ∧ lv_has ls 6 [(0, .ref ob), (1, .ref tn), (2, .ref rw), (3, .int p2), (4, .int L33l4), (5, .int L52l5)]) (fun n9 H locs ls hI ih_17 => ?_) _ _ _ _ ⟨0, L33a5, L33f0x0, rfl, (show 0 ≤ 0 ∧ 0 ≤ 100 from by omega), hP.sub (ws' := [(ob_4, .inl (k 3, 400, .inl L33a5)), (rw, .inr (8, [.ref rw_0, .ref rw_1, .ref rw_2, .int rwv3])), (rw_0, .inl (k 2, 240, .inr (.inl rwg0))), (rw_1, .inl (k 0, 4, .inl rwg1)), (ob, .inr (2, [.int L33f0x0, .ref obb, .ref ob_2, .ref ob_3, .ref ob_4, .ref ob_5])), (obb, .inr (1, [.ref obb_0, .int o_8, .int o_9])), (obb_0, .inl (k 0, 8, .inl o_10)), (ob_2, .inl (k 0, 32, .inl o_11)), (ob_3, .inl (k 0, 32, .inl o_12)), (tn, .inr (10, [.int tnv0, .int tnv1, .int tnv2, .ref tn_3, .ref tn_4, .ref tn_5, .ref tn_6, .int tnv7, .int tnv8, .ref tn_9, .ref tn_10, .int tnv11, .ref tn_12, .ref tn_13, .ref tn_14, .ref tn_15, .int tnv16, .ref tn_17, .ref tn_18, .ref tnt])), (tn_3, .inl (k 0, 10, .inl tng3)), (tn_4, .inl (k 0, 10, .inl tng4)), (tn_5, .inl (k 0, 10, .inl tng5)), (tn_9, .inl (k 0, 4, .inl tng9)), (tn_10, .inl (k 0, 4, .inl tng10))]) [0, 1, 2, 3, 4, 5, 6, 7, 8, 9, 10, 11, 12, 13, 14] rfl, hD.sub (ws' := [(ob_4, .inl (k 3, 400, .inl L33a5)), (rw, .inr (8, [.ref rw_0, .ref rw_1, .ref rw_2, .int rwv3])), (rw_0, .inl (k 2, 240, .inr (.inl rwg0))), (rw_1, .inl (k 0, 4, .inl rwg1)), (ob, .inr (2, [.int L33f0x0, .ref obb, .ref ob_2, .ref ob_3, .ref ob_4, .ref ob_5])), (obb, .inr (1, [.ref obb_0, .int o_8, .int o_9])), (obb_0, .inl (k 0, 8, .inl o_10)), (ob_2, .inl (k 0, 32, .inl o_11)), (ob_3, .inl (k 0, 32, .inl o_12)), (tn, .inr (10, [.int tnv0, .int tnv1, .int tnv2, .ref tn_3, .ref tn_4, .ref tn_5, .ref tn_6, .int tnv7, .int tnv8, .ref tn_9, .ref tn_10, .int tnv11, .ref tn_12, .ref tn_13, .ref tn_14, .ref tn_15, .int tnv16, .ref tn_17, .ref tn_18, .ref tnt])), (tn_3, .inl (k 0, 10, .inl tng3)), (tn_4, .inl (k 0, 10, .inl tng4)), (tn_5, .inl (k 0, 10, .inl tng5)), (tn_9, .inl (k 0, 4, .inl tng9)), (tn_10, .inl (k 0, 4, .inl tng10))]) [0, 1, 2, 3, 4, 5, 6, 7, 8, 9, 10, 11, 12, 13, 14] (by decide +kernel) rfl, hS, lv_sub hl [1, 2, 3, 4, 5, 0] rfl⟩
      clear hP hD hS hl
      obtain ⟨L52l5, L52a0, L52f4x0, en_18, zL52l5, hP, hD, hS, hl⟩ := hI
      refine lv_iload hx hb dX2_match_52 (lv_at hl 5 rfl) ?_
      refine lv_bipush (v := 100) hx hb dX2_match_54 (by decide) ?_
      refine lv_icmp_ge (tgt := 102) hx hb dX2_match_56 (by decide) (fun h_19 => ?_) (fun h_19 => ?_)
      · skip
        have zh_19 : 100 ≤ L52l5.toInt := z_le h_19
        obtain ⟨x_20, ex_20⟩ : ∃ y : Int32, y = L33l4 + 1 := ⟨_, rfl⟩
        have zx_20 : x_20.toInt = L33l4.toInt + 1 := by rw [ex_20]; exact z_add rfl rfl (by omega) (by omega)
        refine lv_iinc (v := x_20) (lv' := [(4, .int x_20), (0, .ref ob), (1, .ref tn), (2, .ref rw), (3, .int p2), (5, .int L52l5)]) hx hb dX2_match_102 hl (k := 4) rfl (by rw [ex_20]; rfl) (by decide) rfl (fun ls hl => ?_)
        refine lv_goto (tgt := 33) hx hb dX2_match_105 (by decide) ?_
        exact ih_4 _ _ _ _ (by omega) ⟨x_20, L52f4x0, o_8, o_9, o_10, o_11, o_12, L52a0, rfl, (show 0 ≤ x_20.toInt ∧ x_20.toInt ≤ 4 from by omega), hw_14, hw_15, hw_16, hP.sub (ws' := [(ob, .inr (2, [.int L52f4x0, .ref obb, .ref ob_2, .ref ob_3, .ref ob_4, .ref ob_5])), (obb, .inr (1, [.ref obb_0, .int o_8, .int o_9])), (obb_0, .inl (k 0, 8, .inl o_10)), (ob_2, .inl (k 0, 32, .inl o_11)), (ob_3, .inl (k 0, 32, .inl o_12)), (ob_4, .inl (k 3, 400, .inl L52a0)), (tn, .inr (10, [.int tnv0, .int tnv1, .int tnv2, .ref tn_3, .ref tn_4, .ref tn_5, .ref tn_6, .int tnv7, .int tnv8, .ref tn_9, .ref tn_10, .int tnv11, .ref tn_12, .ref tn_13, .ref tn_14, .ref tn_15, .int tnv16, .ref tn_17, .ref tn_18, .ref tnt])), (tn_3, .inl (k 0, 10, .inl tng3)), (tn_4, .inl (k 0, 10, .inl tng4)), (tn_5, .inl (k 0, 10, .inl tng5)), (tn_9, .inl (k 0, 4, .inl tng9)), (tn_10, .inl (k 0, 4, .inl tng10)), (rw, .inr (8, [.ref rw_0, .ref rw_1, .ref rw_2, .int rwv3])), (rw_0, .inl (k 2, 240, .inr (.inl rwg0))), (rw_1, .inl (k 0, 4, .inl rwg1))]) [4, 5, 6, 7, 8, 0, 9, 10, 11, 12, 13, 14, 1, 2, 3] rfl, hD.sub (ws' := [(ob, .inr (2, [.int L52f4x0, .ref obb, .ref ob_2, .ref ob_3, .ref ob_4, .ref ob_5])), (obb, .inr (1, [.ref obb_0, .int o_8, .int o_9])), (obb_0, .inl (k 0, 8, .inl o_10)), (ob_2, .inl (k 0, 32, .inl o_11)), (ob_3, .inl (k 0, 32, .inl o_12)), (ob_4, .inl (k 3, 400, .inl L52a0)), (tn, .inr (10, [.int tnv0, .int tnv1, .int tnv2, .ref tn_3, .ref tn_4, .ref tn_5, .ref tn_6, .int tnv7, .int tnv8, .ref tn_9, .ref tn_10, .int tnv11, .ref tn_12, .ref tn_13, .ref tn_14, .ref tn_15, .int tnv16, .ref tn_17, .ref tn_18, .ref tnt])), (tn_3, .inl (k 0, 10, .inl tng3)), (tn_4, .inl (k 0, 10, .inl tng4)), (tn_5, .inl (k 0, 10, .inl tng5)), (tn_9, .inl (k 0, 4, .inl tng9)), (tn_10, .inl (k 0, 4, .inl tng10)), (rw, .inr (8, [.ref rw_0, .ref rw_1, .ref rw_2, .int rwv3])), (rw_0, .inl (k 2, 240, .inr (.inl rwg0))), (rw_1, .inl (k 0, 4, .inl rwg1))]) [4, 5, 6, 7, 8, 0, 9, 10, 11, 12, 13, 14, 1, 2, 3] (by decide +kernel) rfl, hS, lv_sub hl [1, 2, 3, 4, 0] rfl⟩
      · skip
        have zh_19 : L52l5.toInt < 100 := z_nle h_19
        refine lv_aload_n hx hb dX2_match_59 rfl (lv_at hl 0 rfl) ?_
        refine lv_aload_n hx hb dX2_match_60 rfl (lv_at hl 2 rfl) ?_
        refine lv_iload_n hx hb dX2_match_61 rfl (lv_at hl 3 rfl) ?_
        refine lv_iload hx hb dX2_match_62 (lv_at hl 4 rfl) ?_
        refine lv_iload hx hb dX2_match_64 (lv_at hl 5 rfl) ?_
        obtain ⟨hPc, hDc, hFc⟩ := sub3 hP hD hS hA (ws' := [(ob, .inr (2, [.int L52f4x0, .ref obb, .ref ob_2, .ref ob_3, .ref ob_4, .ref ob_5])), (ob_2, .inl (k 0, 32, .inl o_11)), (ob_3, .inl (k 0, 32, .inl o_12)), (rw, .inr (8, [.ref rw_0, .ref rw_1, .ref rw_2, .int rwv3])), (rw_0, .inl (k 2, 240, .inr (.inl rwg0))), (rw_1, .inl (k 0, 4, .inl rwg1))]) [4, 7, 8, 1, 2, 3] (by decide +kernel) rfl
        refine va_calli (va_runV (C := RX2) (As := [.ref rw, .int p2, .int L33l4, .int L52l5]) (rest := []) ⟨hx, hb, hml, hown, hts⟩ (c_X2_matches l D k ob rw p2 L33l4 L52l5 L52f4x0 obb ob_2 ob_3 ob_4 ob_5 o_11 o_12 rw_0 rw_1 rw_2 rwv3 rwg0 rwg1 H.size (show 0 ≤ p2.toInt ∧ p2.toInt ≤ 3 from by omega) (show 0 ≤ L33l4.toInt ∧ L33l4.toInt ≤ 3 from by omega) (show 0 ≤ L52l5.toInt ∧ L52l5.toInt ≤ 99 from by omega) hw_15 hw_16 hp_rwg1_0 hWN) (cwV 4 hts (gV tw_4_239 tw_5_1 tw_p_29 tw_1_9 tw_5_2) rfl rfl rfl hdV_X2_matches ⟨Nat.le_of_ble_eq_true rfl, Nat.le_of_ble_eq_true rfl⟩) (cz_V hK hPc hDc hN (ci := 2) (q0 := 0) rfl rfl [.ref rw, .int p2, .int L33l4, .int L52l5]) rfl rfl hl.1 rfl (lv_room (Nat.le_of_ble_eq_true rfl)) dX2_match_66 ⟨Nat.le_of_ble_eq_true rfl, Nat.le_of_ble_eq_true rfl⟩) hS (fun q _ h => hFc q h) hFc (fun r_21 uZ tZ H1 locs ht hvm hw hB hz1 hk1 hS => ?_)
        obtain ⟨hP1, hK1, hD1⟩ := hB
        rw [ht] at hP1
        obtain ⟨hP, hD⟩ := va_join (wr := [(ob_4, .inl (k 3, 400, .inl L52a0)), (obb, .inr (1, [.ref obb_0, .int o_8, .int o_9])), (obb_0, .inl (k 0, 8, .inl o_10)), (tn, .inr (10, [.int tnv0, .int tnv1, .int tnv2, .ref tn_3, .ref tn_4, .ref tn_5, .ref tn_6, .int tnv7, .int tnv8, .ref tn_9, .ref tn_10, .int tnv11, .ref tn_12, .ref tn_13, .ref tn_14, .ref tn_15, .int tnv16, .ref tn_17, .ref tn_18, .ref tnt])), (tn_3, .inl (k 0, 10, .inl tng3)), (tn_4, .inl (k 0, 10, .inl tng4)), (tn_5, .inl (k 0, 10, .inl tng5)), (tn_9, .inl (k 0, 4, .inl tng9)), (tn_10, .inl (k 0, 4, .inl tng10))]) (w1 := [(ob, .inr (2, [.int L52f4x0, .ref obb, .ref ob_2, .ref ob_3, .ref ob_4, .ref ob_5])), (ob_2, .inl (k 0, 32, .inl o_11)), (ob_3, .inl (k 0, 32, .inl o_12)), (rw, .inr (8, [.ref rw_0, .ref rw_1, .ref rw_2, .int rwv3])), (rw_0, .inl (k 2, 240, .inr (.inl rwg0))), (rw_1, .inl (k 0, 4, .inl rwg1))]) hP hD [4, 7, 8, 1, 2, 3] [0, 5, 6, 9, 10, 11, 12, 13, 14] rfl rfl (by decide +kernel) (by decide +kernel) hk1 hFc hP1 hD1
        clear hK1 hP1 hD1 hPc hDc hFc
        clear hk1 hz1 ht hvm
        have hP : va_P D vwCl [(ob_4, .inl (k 3, 400, .inl L52a0)), (obb, .inr (1, [.ref obb_0, .int o_8, .int o_9])), (obb_0, .inl (k 0, 8, .inl o_10)), (tn, .inr (10, [.int tnv0, .int tnv1, .int tnv2, .ref tn_3, .ref tn_4, .ref tn_5, .ref tn_6, .int tnv7, .int tnv8, .ref tn_9, .ref tn_10, .int tnv11, .ref tn_12, .ref tn_13, .ref tn_14, .ref tn_15, .int tnv16, .ref tn_17, .ref tn_18, .ref tnt])), (tn_3, .inl (k 0, 10, .inl tng3)), (tn_4, .inl (k 0, 10, .inl tng4)), (tn_5, .inl (k 0, 10, .inl tng5)), (tn_9, .inl (k 0, 4, .inl tng9)), (tn_10, .inl (k 0, 4, .inl tng10)), (ob, .inr (2, [.int L52f4x0, .ref obb, .ref ob_2, .ref ob_3, .ref ob_4, .ref ob_5])), (ob_2, .inl (k 0, 32, .inl o_11)), (ob_3, .inl (k 0, 32, .inl o_12)), (rw, .inr (8, [.ref rw_0, .ref rw_1, .ref rw_2, .int rwv3])), (rw_0, .inl (k 2, 240, .inr (.inl rwg0))), (rw_1, .inl (k 0, 4, .inl rwg1))] H1 := hP
        have hD : va_D A [(ob_4, .inl (k 3, 400, .inl L52a0)), (obb, .inr (1, [.ref obb_0, .int o_8, .int o_9])), (obb_0, .inl (k 0, 8, .inl o_10)), (tn, .inr (10, [.int tnv0, .int tnv1, .int tnv2, .ref tn_3, .ref tn_4, .ref tn_5, .ref tn_6, .int tnv7, .int tnv8, .ref tn_9, .ref tn_10, .int tnv11, .ref tn_12, .ref tn_13, .ref tn_14, .ref tn_15, .int tnv16, .ref tn_17, .ref tn_18, .ref tnt])), (tn_3, .inl (k 0, 10, .inl tng3)), (tn_4, .inl (k 0, 10, .inl tng4)), (tn_5, .inl (k 0, 10, .inl tng5)), (tn_9, .inl (k 0, 4, .inl tng9)), (tn_10, .inl (k 0, 4, .inl tng10)), (ob, .inr (2, [.int L52f4x0, .ref obb, .ref ob_2, .ref ob_3, .ref ob_4, .ref ob_5])), (ob_2, .inl (k 0, 32, .inl o_11)), (ob_3, .inl (k 0, 32, .inl o_12)), (rw, .inr (8, [.ref rw_0, .ref rw_1, .ref rw_2, .int rwv3])), (rw_0, .inl (k 2, 240, .inr (.inl rwg0))), (rw_1, .inl (k 0, 4, .inl rwg1))] := hD
        generalize H1 = H at hP hS ⊢
        have hw_22 : (0 ≤ r_21.toInt ∧ r_21.toInt ≤ 1) := hw
        have hw_23 := hw_22
        clear hw
        refine lv_if_eq (tgt := 96) hx hb dX2_match_69 (by decide) (fun h_24 => ?_) (fun h_24 => ?_)
        · skip
          have zh_24 : r_21.toInt = 0 := z_eq h_24
          obtain ⟨x_25, ex_25⟩ : ∃ y : Int32, y = L52l5 + 1 := ⟨_, rfl⟩
          have zx_25 : x_25.toInt = L52l5.toInt + 1 := by rw [ex_25]; exact z_add rfl rfl (by omega) (by omega)
          refine lv_iinc (v := x_25) (lv' := [(5, .int x_25), (0, .ref ob), (1, .ref tn), (2, .ref rw), (3, .int p2), (4, .int L33l4)]) hx hb dX2_match_96 hl (k := 5) rfl (by rw [ex_25]; rfl) (by decide) rfl (fun ls hl => ?_)
          refine lv_goto (tgt := 52) hx hb dX2_match_99 (by decide) ?_
          exact ih_17 _ _ _ _ (by omega) ⟨x_25, L52a0, L52f4x0, rfl, (show 0 ≤ x_25.toInt ∧ x_25.toInt ≤ 100 from by omega), hP.sub (ws' := [(ob_4, .inl (k 3, 400, .inl L52a0)), (rw, .inr (8, [.ref rw_0, .ref rw_1, .ref rw_2, .int rwv3])), (rw_0, .inl (k 2, 240, .inr (.inl rwg0))), (rw_1, .inl (k 0, 4, .inl rwg1)), (ob, .inr (2, [.int L52f4x0, .ref obb, .ref ob_2, .ref ob_3, .ref ob_4, .ref ob_5])), (obb, .inr (1, [.ref obb_0, .int o_8, .int o_9])), (obb_0, .inl (k 0, 8, .inl o_10)), (ob_2, .inl (k 0, 32, .inl o_11)), (ob_3, .inl (k 0, 32, .inl o_12)), (tn, .inr (10, [.int tnv0, .int tnv1, .int tnv2, .ref tn_3, .ref tn_4, .ref tn_5, .ref tn_6, .int tnv7, .int tnv8, .ref tn_9, .ref tn_10, .int tnv11, .ref tn_12, .ref tn_13, .ref tn_14, .ref tn_15, .int tnv16, .ref tn_17, .ref tn_18, .ref tnt])), (tn_3, .inl (k 0, 10, .inl tng3)), (tn_4, .inl (k 0, 10, .inl tng4)), (tn_5, .inl (k 0, 10, .inl tng5)), (tn_9, .inl (k 0, 4, .inl tng9)), (tn_10, .inl (k 0, 4, .inl tng10))]) [0, 12, 13, 14, 9, 1, 2, 10, 11, 3, 4, 5, 6, 7, 8] rfl, hD.sub (ws' := [(ob_4, .inl (k 3, 400, .inl L52a0)), (rw, .inr (8, [.ref rw_0, .ref rw_1, .ref rw_2, .int rwv3])), (rw_0, .inl (k 2, 240, .inr (.inl rwg0))), (rw_1, .inl (k 0, 4, .inl rwg1)), (ob, .inr (2, [.int L52f4x0, .ref obb, .ref ob_2, .ref ob_3, .ref ob_4, .ref ob_5])), (obb, .inr (1, [.ref obb_0, .int o_8, .int o_9])), (obb_0, .inl (k 0, 8, .inl o_10)), (ob_2, .inl (k 0, 32, .inl o_11)), (ob_3, .inl (k 0, 32, .inl o_12)), (tn, .inr (10, [.int tnv0, .int tnv1, .int tnv2, .ref tn_3, .ref tn_4, .ref tn_5, .ref tn_6, .int tnv7, .int tnv8, .ref tn_9, .ref tn_10, .int tnv11, .ref tn_12, .ref tn_13, .ref tn_14, .ref tn_15, .int tnv16, .ref tn_17, .ref tn_18, .ref tnt])), (tn_3, .inl (k 0, 10, .inl tng3)), (tn_4, .inl (k 0, 10, .inl tng4)), (tn_5, .inl (k 0, 10, .inl tng5)), (tn_9, .inl (k 0, 4, .inl tng9)), (tn_10, .inl (k 0, 4, .inl tng10))]) [0, 12, 13, 14, 9, 1, 2, 10, 11, 3, 4, 5, 6, 7, 8] (by decide +kernel) rfl, hS, lv_sub hl [1, 2, 3, 4, 5, 0] rfl⟩
        · skip
          have zh_24 : ¬ r_21.toInt = 0 := z_ne h_24
          refine lv_aload_n hx hb dX2_match_72 rfl (lv_at hl 0 rfl) ?_
          refine va_get (D := D) (ci := 2) (v := .ref ob_4) (C := RX2) (T := TX2) (N := 6) hx hb hts iT_X2 hown hK hP 9 rfl rfl 4 (by decide) (hts _ tw_2_101) (fun _ h9 => h9) rfl dX2_match_73 ?_
          refine lv_iload hx hb dX2_match_76 (lv_at hl 4 rfl) ?_
          refine lv_bipush (v := 100) hx hb dX2_match_78 (by decide) ?_
          refine lv_imul hx hb dX2_match_80 ?_
          refine lv_topi (fun x_26 ex_26 => ?_)
          have zx_26 : x_26.toInt = L33l4.toInt * 100 := by rw [ex_26]; exact z_mul rfl rfl (by omega) (by omega)
          refine lv_iload hx hb dX2_match_81 (lv_at hl 5 rfl) ?_
          refine lv_iadd hx hb dX2_match_83 ?_
          refine lv_topi (fun x_27 ex_27 => ?_)
          have zx_27 : x_27.toInt = x_26.toInt + L52l5.toInt := by rw [ex_27]; exact z_add rfl rfl (by omega) (by omega)
          refine lv_iconst (v := 1) hx hb dX2_match_84 (by decide) ?_
          refine va_zast hx hb hK hP hD hS 0 3 rfl rfl (z_in (by omega) (by omega)) dX2_match_85 (fun H locs hP hD hS => ?_)
          obtain ⟨g_28, eg_28⟩ : ∃ z : Nat → Int32, upd L52a0 x_27.toNatClampNeg (vp_nar .boolean 1) = z := ⟨_, rfl⟩
          have hP : va_P D vwCl [(ob_4, .inl (k 3, 400, .inl (upd L52a0 x_27.toNatClampNeg (vp_nar .boolean 1)))), (obb, .inr (1, [.ref obb_0, .int o_8, .int o_9])), (obb_0, .inl (k 0, 8, .inl o_10)), (tn, .inr (10, [.int tnv0, .int tnv1, .int tnv2, .ref tn_3, .ref tn_4, .ref tn_5, .ref tn_6, .int tnv7, .int tnv8, .ref tn_9, .ref tn_10, .int tnv11, .ref tn_12, .ref tn_13, .ref tn_14, .ref tn_15, .int tnv16, .ref tn_17, .ref tn_18, .ref tnt])), (tn_3, .inl (k 0, 10, .inl tng3)), (tn_4, .inl (k 0, 10, .inl tng4)), (tn_5, .inl (k 0, 10, .inl tng5)), (tn_9, .inl (k 0, 4, .inl tng9)), (tn_10, .inl (k 0, 4, .inl tng10)), (ob, .inr (2, [.int L52f4x0, .ref obb, .ref ob_2, .ref ob_3, .ref ob_4, .ref ob_5])), (ob_2, .inl (k 0, 32, .inl o_11)), (ob_3, .inl (k 0, 32, .inl o_12)), (rw, .inr (8, [.ref rw_0, .ref rw_1, .ref rw_2, .int rwv3])), (rw_0, .inl (k 2, 240, .inr (.inl rwg0))), (rw_1, .inl (k 0, 4, .inl rwg1))] H := hP
          have hD : va_D A [(ob_4, .inl (k 3, 400, .inl (upd L52a0 x_27.toNatClampNeg (vp_nar .boolean 1)))), (obb, .inr (1, [.ref obb_0, .int o_8, .int o_9])), (obb_0, .inl (k 0, 8, .inl o_10)), (tn, .inr (10, [.int tnv0, .int tnv1, .int tnv2, .ref tn_3, .ref tn_4, .ref tn_5, .ref tn_6, .int tnv7, .int tnv8, .ref tn_9, .ref tn_10, .int tnv11, .ref tn_12, .ref tn_13, .ref tn_14, .ref tn_15, .int tnv16, .ref tn_17, .ref tn_18, .ref tnt])), (tn_3, .inl (k 0, 10, .inl tng3)), (tn_4, .inl (k 0, 10, .inl tng4)), (tn_5, .inl (k 0, 10, .inl tng5)), (tn_9, .inl (k 0, 4, .inl tng9)), (tn_10, .inl (k 0, 4, .inl tng10)), (ob, .inr (2, [.int L52f4x0, .ref obb, .ref ob_2, .ref ob_3, .ref ob_4, .ref ob_5])), (ob_2, .inl (k 0, 32, .inl o_11)), (ob_3, .inl (k 0, 32, .inl o_12)), (rw, .inr (8, [.ref rw_0, .ref rw_1, .ref rw_2, .int rwv3])), (rw_0, .inl (k 2, 240, .inr (.inl rwg0))), (rw_1, .inl (k 0, 4, .inl rwg1))] := hD
          rw [eg_28] at hP hD
          refine lv_aload_n hx hb dX2_match_86 rfl (lv_at hl 0 rfl) ?_
          refine lv_dup hx hb dX2_match_87 rfl ?_
          refine va_get (D := D) (ci := 2) (v := .int L52f4x0) (C := RX2) (T := TX2) (N := 6) hx hb hts iT_X2 hown hK hP 9 rfl rfl 0 (by decide) (hts _ tw_2_96) (fun _ h9 => h9) rfl dX2_match_88 ?_
          refine lv_iconst (v := 1) hx hb dX2_match_91 (by decide) ?_
          refine lv_iadd hx hb dX2_match_92 ?_
          refine lv_topi (fun x_29 ex_29 => ?_)
          have zrL52f4x0 := z_rng L52f4x0
          refine va_put (D := D) (ci := 2) (v := .int x_29) (ty := tyX2 0) (C := RX2) (T := TX2) (N := 6) hx hb hts iT_X2 tyX2 tyX2_ok nmX2 hown hK hP hD hS 9 rfl rfl 0 (by decide) (hts _ tw_2_96) (fun _ h9 => h9) rfl (tyX2_ok 0 (by decide)) rfl rfl (Nat.le_of_ble_eq_true rfl) dX2_match_93 (fun H locs hP hD hS => ?_)
          have hP : va_P D vwCl [(ob_4, .inl (k 3, 400, .inl g_28)), (obb, .inr (1, [.ref obb_0, .int o_8, .int o_9])), (obb_0, .inl (k 0, 8, .inl o_10)), (tn, .inr (10, [.int tnv0, .int tnv1, .int tnv2, .ref tn_3, .ref tn_4, .ref tn_5, .ref tn_6, .int tnv7, .int tnv8, .ref tn_9, .ref tn_10, .int tnv11, .ref tn_12, .ref tn_13, .ref tn_14, .ref tn_15, .int tnv16, .ref tn_17, .ref tn_18, .ref tnt])), (tn_3, .inl (k 0, 10, .inl tng3)), (tn_4, .inl (k 0, 10, .inl tng4)), (tn_5, .inl (k 0, 10, .inl tng5)), (tn_9, .inl (k 0, 4, .inl tng9)), (tn_10, .inl (k 0, 4, .inl tng10)), (ob, .inr (2, [.int x_29, .ref obb, .ref ob_2, .ref ob_3, .ref ob_4, .ref ob_5])), (ob_2, .inl (k 0, 32, .inl o_11)), (ob_3, .inl (k 0, 32, .inl o_12)), (rw, .inr (8, [.ref rw_0, .ref rw_1, .ref rw_2, .int rwv3])), (rw_0, .inl (k 2, 240, .inr (.inl rwg0))), (rw_1, .inl (k 0, 4, .inl rwg1))] H := hP
          have hD : va_D A [(ob_4, .inl (k 3, 400, .inl g_28)), (obb, .inr (1, [.ref obb_0, .int o_8, .int o_9])), (obb_0, .inl (k 0, 8, .inl o_10)), (tn, .inr (10, [.int tnv0, .int tnv1, .int tnv2, .ref tn_3, .ref tn_4, .ref tn_5, .ref tn_6, .int tnv7, .int tnv8, .ref tn_9, .ref tn_10, .int tnv11, .ref tn_12, .ref tn_13, .ref tn_14, .ref tn_15, .int tnv16, .ref tn_17, .ref tn_18, .ref tnt])), (tn_3, .inl (k 0, 10, .inl tng3)), (tn_4, .inl (k 0, 10, .inl tng4)), (tn_5, .inl (k 0, 10, .inl tng5)), (tn_9, .inl (k 0, 4, .inl tng9)), (tn_10, .inl (k 0, 4, .inl tng10)), (ob, .inr (2, [.int x_29, .ref obb, .ref ob_2, .ref ob_3, .ref ob_4, .ref ob_5])), (ob_2, .inl (k 0, 32, .inl o_11)), (ob_3, .inl (k 0, 32, .inl o_12)), (rw, .inr (8, [.ref rw_0, .ref rw_1, .ref rw_2, .int rwv3])), (rw_0, .inl (k 2, 240, .inr (.inl rwg0))), (rw_1, .inl (k 0, 4, .inl rwg1))] := hD
          obtain ⟨x_30, ex_30⟩ : ∃ y : Int32, y = L52l5 + 1 := ⟨_, rfl⟩
          have zx_30 : x_30.toInt = L52l5.toInt + 1 := by rw [ex_30]; exact z_add rfl rfl (by omega) (by omega)
          refine lv_iinc (v := x_30) (lv' := [(5, .int x_30), (0, .ref ob), (1, .ref tn), (2, .ref rw), (3, .int p2), (4, .int L33l4)]) hx hb dX2_match_96 hl (k := 5) rfl (by rw [ex_30]; rfl) (by decide) rfl (fun ls hl => ?_)
          refine lv_goto (tgt := 52) hx hb dX2_match_99 (by decide) ?_
          exact ih_17 _ _ _ _ (by omega) ⟨x_30, g_28, x_29, rfl, (show 0 ≤ x_30.toInt ∧ x_30.toInt ≤ 100 from by omega), hP.sub (ws' := [(ob_4, .inl (k 3, 400, .inl g_28)), (rw, .inr (8, [.ref rw_0, .ref rw_1, .ref rw_2, .int rwv3])), (rw_0, .inl (k 2, 240, .inr (.inl rwg0))), (rw_1, .inl (k 0, 4, .inl rwg1)), (ob, .inr (2, [.int x_29, .ref obb, .ref ob_2, .ref ob_3, .ref ob_4, .ref ob_5])), (obb, .inr (1, [.ref obb_0, .int o_8, .int o_9])), (obb_0, .inl (k 0, 8, .inl o_10)), (ob_2, .inl (k 0, 32, .inl o_11)), (ob_3, .inl (k 0, 32, .inl o_12)), (tn, .inr (10, [.int tnv0, .int tnv1, .int tnv2, .ref tn_3, .ref tn_4, .ref tn_5, .ref tn_6, .int tnv7, .int tnv8, .ref tn_9, .ref tn_10, .int tnv11, .ref tn_12, .ref tn_13, .ref tn_14, .ref tn_15, .int tnv16, .ref tn_17, .ref tn_18, .ref tnt])), (tn_3, .inl (k 0, 10, .inl tng3)), (tn_4, .inl (k 0, 10, .inl tng4)), (tn_5, .inl (k 0, 10, .inl tng5)), (tn_9, .inl (k 0, 4, .inl tng9)), (tn_10, .inl (k 0, 4, .inl tng10))]) [0, 12, 13, 14, 9, 1, 2, 10, 11, 3, 4, 5, 6, 7, 8] rfl, hD.sub (ws' := [(ob_4, .inl (k 3, 400, .inl g_28)), (rw, .inr (8, [.ref rw_0, .ref rw_1, .ref rw_2, .int rwv3])), (rw_0, .inl (k 2, 240, .inr (.inl rwg0))), (rw_1, .inl (k 0, 4, .inl rwg1)), (ob, .inr (2, [.int x_29, .ref obb, .ref ob_2, .ref ob_3, .ref ob_4, .ref ob_5])), (obb, .inr (1, [.ref obb_0, .int o_8, .int o_9])), (obb_0, .inl (k 0, 8, .inl o_10)), (ob_2, .inl (k 0, 32, .inl o_11)), (ob_3, .inl (k 0, 32, .inl o_12)), (tn, .inr (10, [.int tnv0, .int tnv1, .int tnv2, .ref tn_3, .ref tn_4, .ref tn_5, .ref tn_6, .int tnv7, .int tnv8, .ref tn_9, .ref tn_10, .int tnv11, .ref tn_12, .ref tn_13, .ref tn_14, .ref tn_15, .int tnv16, .ref tn_17, .ref tn_18, .ref tnt])), (tn_3, .inl (k 0, 10, .inl tng3)), (tn_4, .inl (k 0, 10, .inl tng4)), (tn_5, .inl (k 0, 10, .inl tng5)), (tn_9, .inl (k 0, 4, .inl tng9)), (tn_10, .inl (k 0, 4, .inl tng10))]) [0, 12, 13, 14, 9, 1, 2, 10, 11, 3, 4, 5, 6, 7, 8] (by decide +kernel) rfl, hS, lv_sub hl [1, 2, 3, 4, 5, 0] rfl⟩
  · skip
    have zh_3 : L8l4.toInt < 400 := z_nle h_3
    refine lv_aload_n hx hb dX2_match_16 rfl (lv_at hl 0 rfl) ?_
    refine va_get (D := D) (ci := 2) (v := .ref ob_4) (C := RX2) (T := TX2) (N := 6) hx hb hts iT_X2 hown hK hP 0 rfl rfl 4 (by decide) (hts _ tw_2_101) (fun _ h9 => h9) rfl dX2_match_17 ?_
    refine lv_iload hx hb dX2_match_20 (lv_at hl 4 rfl) ?_
    refine lv_iconst (v := 0) hx hb dX2_match_22 (by decide) ?_
    refine va_zast hx hb hK hP hD hS 5 3 rfl rfl (z_in (by omega) (by omega)) dX2_match_23 (fun H locs hP hD hS => ?_)
    obtain ⟨g_31, eg_31⟩ : ∃ z : Nat → Int32, upd L8a5 L8l4.toNatClampNeg (vp_nar .boolean 0) = z := ⟨_, rfl⟩
    have hP : va_P D vwCl [(ob, .inr (2, [.int 0, .ref obb, .ref ob_2, .ref ob_3, .ref ob_4, .ref ob_5])), (obb, .inr (1, [.ref obb_0, .int obbv1, .int obbv2])), (obb_0, .inl (k 0, 8, .inl obbg0)), (ob_2, .inl (k 0, 32, .inl obg2)), (ob_3, .inl (k 0, 32, .inl obg3)), (ob_4, .inl (k 3, 400, .inl (upd L8a5 L8l4.toNatClampNeg (vp_nar .boolean 0)))), (tn, .inr (10, [.int tnv0, .int tnv1, .int tnv2, .ref tn_3, .ref tn_4, .ref tn_5, .ref tn_6, .int tnv7, .int tnv8, .ref tn_9, .ref tn_10, .int tnv11, .ref tn_12, .ref tn_13, .ref tn_14, .ref tn_15, .int tnv16, .ref tn_17, .ref tn_18, .ref tnt])), (tn_3, .inl (k 0, 10, .inl tng3)), (tn_4, .inl (k 0, 10, .inl tng4)), (tn_5, .inl (k 0, 10, .inl tng5)), (tn_9, .inl (k 0, 4, .inl tng9)), (tn_10, .inl (k 0, 4, .inl tng10)), (rw, .inr (8, [.ref rw_0, .ref rw_1, .ref rw_2, .int rwv3])), (rw_0, .inl (k 2, 240, .inr (.inl rwg0))), (rw_1, .inl (k 0, 4, .inl rwg1))] H := hP
    have hD : va_D A [(ob, .inr (2, [.int 0, .ref obb, .ref ob_2, .ref ob_3, .ref ob_4, .ref ob_5])), (obb, .inr (1, [.ref obb_0, .int obbv1, .int obbv2])), (obb_0, .inl (k 0, 8, .inl obbg0)), (ob_2, .inl (k 0, 32, .inl obg2)), (ob_3, .inl (k 0, 32, .inl obg3)), (ob_4, .inl (k 3, 400, .inl (upd L8a5 L8l4.toNatClampNeg (vp_nar .boolean 0)))), (tn, .inr (10, [.int tnv0, .int tnv1, .int tnv2, .ref tn_3, .ref tn_4, .ref tn_5, .ref tn_6, .int tnv7, .int tnv8, .ref tn_9, .ref tn_10, .int tnv11, .ref tn_12, .ref tn_13, .ref tn_14, .ref tn_15, .int tnv16, .ref tn_17, .ref tn_18, .ref tnt])), (tn_3, .inl (k 0, 10, .inl tng3)), (tn_4, .inl (k 0, 10, .inl tng4)), (tn_5, .inl (k 0, 10, .inl tng5)), (tn_9, .inl (k 0, 4, .inl tng9)), (tn_10, .inl (k 0, 4, .inl tng10)), (rw, .inr (8, [.ref rw_0, .ref rw_1, .ref rw_2, .int rwv3])), (rw_0, .inl (k 2, 240, .inr (.inl rwg0))), (rw_1, .inl (k 0, 4, .inl rwg1))] := hD
    rw [eg_31] at hP hD
    obtain ⟨x_32, ex_32⟩ : ∃ y : Int32, y = L8l4 + 1 := ⟨_, rfl⟩
    have zx_32 : x_32.toInt = L8l4.toInt + 1 := by rw [ex_32]; exact z_add rfl rfl (by omega) (by omega)
    refine lv_iinc (v := x_32) (lv' := [(4, .int x_32), (0, .ref ob), (1, .ref tn), (2, .ref rw), (3, .int p2)]) hx hb dX2_match_24 hl (k := 4) rfl (by rw [ex_32]; rfl) (by decide) rfl (fun ls hl => ?_)
    refine lv_goto (tgt := 8) hx hb dX2_match_27 (by decide) ?_
    exact ih_1 _ _ _ _ (by omega) ⟨x_32, g_31, rfl, (show 0 ≤ x_32.toInt ∧ x_32.toInt ≤ 400 from by omega), hP.sub (ws' := [(ob, .inr (2, [.int 0, .ref obb, .ref ob_2, .ref ob_3, .ref ob_4, .ref ob_5])), (obb, .inr (1, [.ref obb_0, .int obbv1, .int obbv2])), (obb_0, .inl (k 0, 8, .inl obbg0)), (ob_2, .inl (k 0, 32, .inl obg2)), (ob_3, .inl (k 0, 32, .inl obg3)), (ob_4, .inl (k 3, 400, .inl g_31)), (tn, .inr (10, [.int tnv0, .int tnv1, .int tnv2, .ref tn_3, .ref tn_4, .ref tn_5, .ref tn_6, .int tnv7, .int tnv8, .ref tn_9, .ref tn_10, .int tnv11, .ref tn_12, .ref tn_13, .ref tn_14, .ref tn_15, .int tnv16, .ref tn_17, .ref tn_18, .ref tnt])), (tn_3, .inl (k 0, 10, .inl tng3)), (tn_4, .inl (k 0, 10, .inl tng4)), (tn_5, .inl (k 0, 10, .inl tng5)), (tn_9, .inl (k 0, 4, .inl tng9)), (tn_10, .inl (k 0, 4, .inl tng10)), (rw, .inr (8, [.ref rw_0, .ref rw_1, .ref rw_2, .int rwv3])), (rw_0, .inl (k 2, 240, .inr (.inl rwg0))), (rw_1, .inl (k 0, 4, .inl rwg1))]) [0, 1, 2, 3, 4, 5, 6, 7, 8, 9, 10, 11, 12, 13, 14] rfl, hD.sub (ws' := [(ob, .inr (2, [.int 0, .ref obb, .ref ob_2, .ref ob_3, .ref ob_4, .ref ob_5])), (obb, .inr (1, [.ref obb_0, .int obbv1, .int obbv2])), (obb_0, .inl (k 0, 8, .inl obbg0)), (ob_2, .inl (k 0, 32, .inl obg2)), (ob_3, .inl (k 0, 32, .inl obg3)), (ob_4, .inl (k 3, 400, .inl g_31)), (tn, .inr (10, [.int tnv0, .int tnv1, .int tnv2, .ref tn_3, .ref tn_4, .ref tn_5, .ref tn_6, .int tnv7, .int tnv8, .ref tn_9, .ref tn_10, .int tnv11, .ref tn_12, .ref tn_13, .ref tn_14, .ref tn_15, .int tnv16, .ref tn_17, .ref tn_18, .ref tnt])), (tn_3, .inl (k 0, 10, .inl tng3)), (tn_4, .inl (k 0, 10, .inl tng4)), (tn_5, .inl (k 0, 10, .inl tng5)), (tn_9, .inl (k 0, 4, .inl tng9)), (tn_10, .inl (k 0, 4, .inl tng10)), (rw, .inr (8, [.ref rw_0, .ref rw_1, .ref rw_2, .int rwv3])), (rw_0, .inl (k 2, 240, .inr (.inl rwg0))), (rw_1, .inl (k 0, 4, .inl rwg1))]) [0, 1, 2, 3, 4, 5, 6, 7, 8, 9, 10, 11, 12, 13, 14] (by decide +kernel) rfl, hS, lv_sub hl [1, 2, 3, 4, 0] rfl⟩
set_option maxHeartbeats 4000000 in
set_option maxRecDepth 100000 in
theorem c_X2_leastFitting (l : Launch) (D : va_G) (k : Nat → ClassId) (ob : Nat) (p0 : Int32) (obv0 : Int32) (obb : Nat) (ob_2 : Nat) (ob_3 : Nat) (ob_4 : Nat) (ob_5 : Nat) (obg4 : Nat → Int32) (sz : Nat) (h_p0 : 0 ≤ p0.toInt ∧ p0.toInt ≤ 3) : Met l yX2_leastFitting (ww yX2_leastFitting cX2_leastFitting 3 (some .int)) ({ frames := 0, cells := 0, slots := 0, locals := 0 }) (Pre0 D k [(ob, .inr (2, [.int obv0, .ref obb, .ref ob_2, .ref ob_3, .ref ob_4, .ref ob_5])), (ob_4, .inl (k 3, 400, .inl obg4))] sz [.ref ob, .int p0]) (va_Qi (fun (r : Int32) (_ : Unit) => ((-1) ≤ r.toInt ∧ r.toInt ≤ 99)) (fun (_ : Unit) tZ => Bw D k (va_A [(ob, .inr (2, [.int obv0, .ref obb, .ref ob_2, .ref ob_3, .ref ob_4, .ref ob_5])), (ob_4, .inl (k 3, 400, .inl obg4))] sz) [(ob, .inr (2, [.int obv0, .ref obb, .ref ob_2, .ref ob_3, .ref ob_4, .ref ob_5])), (ob_4, .inl (k 3, 400, .inl obg4))] tZ) (va_A [(ob, .inr (2, [.int obv0, .ref obb, .ref ob_2, .ref ob_3, .ref ob_4, .ref ob_5])), (ob_4, .inl (k 3, 400, .inl obg4))] sz)) 0 0 (va_A [(ob, .inr (2, [.int obv0, .ref obb, .ref ob_2, .ref ob_3, .ref ob_4, .ref ob_5])), (ob_4, .inl (k 3, 400, .inl obg4))] sz) := by
  refine Met.ofW (cc := cX2_leastFitting) (maxL := 3) (ret := (some .int)) (by decide +kernel) rfl ?_
  intro p e s m args below meth c s₁ B hml hv
  obtain ⟨rfl, hsz, hP, hK, hD0, hN⟩ := hv
  have hx := B.exec
  have hb := B.bytes
  have hr := B.returns
  have hts : ∀ w ∈ TT, w.before _ s = true := fun w h => atoms_spec (ws := ww yX2_leastFitting cX2_leastFitting 3 (some .int)) B.pre w (List.mem_cons_of_mem _ h)
  have hown : s.vm.findClass RX2 = some m.cls := findClass_of_methodNamed B.named
  have hlocks := B.notSynchronized
  subst hsz
  have hD := hD0.self (sz := s.heap.size)
  generalize hAe : va_A [(ob, .inr (2, [.int obv0, .ref obb, .ref ob_2, .ref ob_3, .ref ob_4, .ref ob_5])), (ob_4, .inl (k 3, 400, .inl obg4))] s.heap.size = A at hD ⊢
  have hA : ∀ q : Nat, s.heap.size ≤ q → A q := fun q h => by rw [← hAe]; exact Or.inr h
  have hS : va_S A s.heap s.heap [] := va_S.rf
  have hl := lv_entry ([.ref ob, .int p0]) (n := 3) (Nat.le_of_ble_eq_true rfl)
  rw [lg_entry_eq]
  generalize (lg_sl ([.ref ob, .int p0]) ++ List.replicate (3 - (lg_sl ([.ref ob, .int p0])).length) Slot.unset).toArray = ls at hl ⊢
  have hl : lv_has ls 3 [(0, .ref ob), (1, .int p0)] := hl
  refine lv_iconst (v := 0) hx hb dX2_leastFitting_0 (by decide) ?_
  refine lv_istore_n (lv' := [(2, .int 0), (0, .ref ob), (1, .int p0)]) hx hb dX2_leastFitting_1 rfl hl (by decide) rfl (fun ls hl => ?_)
  refine loop_r (Wg := fun H locs ls => W p l e _ s m _ below meth c H locs _ _ _ (F0 m 2 ls [])) (fun n9 H locs ls => ∃ (L2l2 : Int32), n9 = (100 - L2l2.toInt).toNat ∧ (0 ≤ L2l2.toInt ∧ L2l2.toInt ≤ 100) ∧ va_P D vwCl [(ob, .inr (2, [.int obv0, .ref obb, .ref ob_2, .ref ob_3, .ref ob_4, .ref ob_5])), (ob_4, .inl (k 3, 400, .inl obg4))] H ∧ va_D A [(ob, .inr (2, [.int obv0, .ref obb, .ref ob_2, .ref ob_3, .ref ob_4, .ref ob_5])), (ob_4, .inl (k 3, 400, .inl obg4))] ∧ va_S A s.heap H locs ∧ lv_has ls 3 [(0, .ref ob), (1, .int p0), (2, .int L2l2)]) (fun n9 H locs ls hI ih_1 => ?_) _ _ _ _ ⟨0, rfl, (show 0 ≤ 0 ∧ 0 ≤ 100 from by omega), hP.sub (ws' := [(ob, .inr (2, [.int obv0, .ref obb, .ref ob_2, .ref ob_3, .ref ob_4, .ref ob_5])), (ob_4, .inl (k 3, 400, .inl obg4))]) [0, 1] rfl, hD.sub (ws' := [(ob, .inr (2, [.int obv0, .ref obb, .ref ob_2, .ref ob_3, .ref ob_4, .ref ob_5])), (ob_4, .inl (k 3, 400, .inl obg4))]) [0, 1] (by decide +kernel) rfl, hS, lv_sub hl [1, 2, 0] rfl⟩
  clear hP hD hS hl
  obtain ⟨L2l2, en_2, zL2l2, hP, hD, hS, hl⟩ := hI
  refine lv_iload_n hx hb dX2_leastFitting_2 rfl (lv_at hl 2 rfl) ?_
  refine lv_bipush (v := 100) hx hb dX2_leastFitting_3 (by decide) ?_
  refine lv_icmp_ge (tgt := 30) hx hb dX2_leastFitting_5 (by decide) (fun h_3 => ?_) (fun h_3 => ?_)
  · skip
    have zh_3 : 100 ≤ L2l2.toInt := z_le h_3
    refine lv_iconst (v := (-1)) hx hb dX2_leastFitting_30 (by decide) ?_
    obtain ⟨hP9, hD9⟩ := sub2 hP hD (ws' := [(ob, .inr (2, [.int obv0, .ref obb, .ref ob_2, .ref ob_3, .ref ob_4, .ref ob_5])), (ob_4, .inl (k 3, 400, .inl obg4))]) [0, 1] (by decide +kernel) rfl
    exact W.iret (v := (-1)) hx hb hr (fun tZ ht hW => ⟨⟨(-1), (), rfl, (show (-1) ≤ (-1) ∧ (-1) ≤ 99 from by omega), by rw [ht]; exact hP9, va_K.moved hW.alike hK, hD9⟩, hS.F ht⟩) hS.2.2 dX2_leastFitting_31
  · skip
    have zh_3 : L2l2.toInt < 100 := z_nle h_3
    refine lv_aload_n hx hb dX2_leastFitting_8 rfl (lv_at hl 0 rfl) ?_
    refine va_get (D := D) (ci := 2) (v := .ref ob_4) (C := RX2) (T := TX2) (N := 6) hx hb hts iT_X2 hown hK hP 0 rfl rfl 4 (by decide) (hts _ tw_2_101) (fun _ h9 => h9) rfl dX2_leastFitting_9 ?_
    refine lv_iload_n hx hb dX2_leastFitting_12 rfl (lv_at hl 1 rfl) ?_
    refine lv_bipush (v := 100) hx hb dX2_leastFitting_13 (by decide) ?_
    refine lv_imul hx hb dX2_leastFitting_15 ?_
    refine lv_topi (fun x_4 ex_4 => ?_)
    have zx_4 : x_4.toInt = p0.toInt * 100 := by rw [ex_4]; exact z_mul rfl rfl (by omega) (by omega)
    refine lv_iload_n hx hb dX2_leastFitting_16 rfl (lv_at hl 2 rfl) ?_
    refine lv_iadd hx hb dX2_leastFitting_17 ?_
    refine lv_topi (fun x_5 ex_5 => ?_)
    have zx_5 : x_5.toInt = x_4.toInt + L2l2.toInt := by rw [ex_5]; exact z_add rfl rfl (by omega) (by omega)
    refine va_zald hx hb hK hP 1 3 rfl rfl (z_in (by omega) (by omega)) dX2_leastFitting_18 ?_
    refine lv_topi (fun x_6 ex_6 => ?_)
    refine lv_if_eq (tgt := 24) hx hb dX2_leastFitting_19 (by decide) (fun h_7 => ?_) (fun h_7 => ?_)
    · skip
      have zh_7 : x_6.toInt = 0 := z_eq h_7
      obtain ⟨x_8, ex_8⟩ : ∃ y : Int32, y = L2l2 + 1 := ⟨_, rfl⟩
      have zx_8 : x_8.toInt = L2l2.toInt + 1 := by rw [ex_8]; exact z_add rfl rfl (by omega) (by omega)
      refine lv_iinc (v := x_8) (lv' := [(2, .int x_8), (0, .ref ob), (1, .int p0)]) hx hb dX2_leastFitting_24 hl (k := 2) rfl (by rw [ex_8]; rfl) (by decide) rfl (fun ls hl => ?_)
      refine lv_goto (tgt := 2) hx hb dX2_leastFitting_27 (by decide) ?_
      exact ih_1 _ _ _ _ (by omega) ⟨x_8, rfl, (show 0 ≤ x_8.toInt ∧ x_8.toInt ≤ 100 from by omega), hP.sub (ws' := [(ob, .inr (2, [.int obv0, .ref obb, .ref ob_2, .ref ob_3, .ref ob_4, .ref ob_5])), (ob_4, .inl (k 3, 400, .inl obg4))]) [0, 1] rfl, hD.sub (ws' := [(ob, .inr (2, [.int obv0, .ref obb, .ref ob_2, .ref ob_3, .ref ob_4, .ref ob_5])), (ob_4, .inl (k 3, 400, .inl obg4))]) [0, 1] (by decide +kernel) rfl, hS, lv_sub hl [1, 2, 0] rfl⟩
    · skip
      have zh_7 : ¬ x_6.toInt = 0 := z_ne h_7
      refine lv_iload_n hx hb dX2_leastFitting_22 rfl (lv_at hl 2 rfl) ?_
      obtain ⟨hP9, hD9⟩ := sub2 hP hD (ws' := [(ob, .inr (2, [.int obv0, .ref obb, .ref ob_2, .ref ob_3, .ref ob_4, .ref ob_5])), (ob_4, .inl (k 3, 400, .inl obg4))]) [0, 1] (by decide +kernel) rfl
      exact W.iret (v := L2l2) hx hb hr (fun tZ ht hW => ⟨⟨L2l2, (), rfl, (show (-1) ≤ L2l2.toInt ∧ L2l2.toInt ≤ 99 from by omega), by rw [ht]; exact hP9, va_K.moved hW.alike hK, hD9⟩, hS.F ht⟩) hS.2.2 dX2_leastFitting_23
set_option maxHeartbeats 4000000 in
set_option maxRecDepth 100000 in
theorem c_X2_leftAtWorst (l : Launch) (D : va_G) (k : Nat → ClassId) (ob : Nat) (tn : Nat) (p1 : Int32) (obv0 : Int32) (obb : Nat) (ob_2 : Nat) (ob_3 : Nat) (ob_4 : Nat) (ob_5 : Nat) (obg2 : Nat → Int32) (obg3 : Nat → Int32) (obg4 : Nat → Int32) (obg5 : Nat → Int32) (tnv0 : Int32) (tnv1 : Int32) (tnv2 : Int32) (tn_3 : Nat) (tn_4 : Nat) (tn_5 : Nat) (tn_6 : Nat) (tnv7 : Int32) (tnv8 : Int32) (tn_9 : Nat) (tn_10 : Nat) (tnv11 : Int32) (tn_12 : Nat) (tn_13 : Nat) (tn_14 : Nat) (tn_15 : Nat) (tnv16 : Int32) (tn_17 : Nat) (tn_18 : Nat) (tnt : Nat) (sz : Nat) (h_p1 : 0 ≤ p1.toInt ∧ p1.toInt ≤ 7) (hp_obg2_0 : PR 32 1 0 0 1000000 obg2) (hp_obg3_0 : PR 32 1 0 0 1000000 obg3) (h_tnv0 : 0 ≤ tnv0.toInt ∧ tnv0.toInt ≤ 8) (h_tnv2 : 0 ≤ tnv2.toInt ∧ tnv2.toInt ≤ 10) (h_tnv8 : 0 ≤ tnv8.toInt ∧ tnv8.toInt ≤ 4) (h_tnv11 : 0 ≤ tnv11.toInt ∧ tnv11.toInt ≤ 6) (h_tnv16 : 0 ≤ tnv16.toInt ∧ tnv16.toInt ≤ 2) : Met l yX2_leftAtWorst (ww yX2_leftAtWorst cX2_leftAtWorst 6 (some .int)) ({ frames := 2, cells := 0, slots := 0, locals := 45 }) (Pre0 D k [(ob, .inr (2, [.int obv0, .ref obb, .ref ob_2, .ref ob_3, .ref ob_4, .ref ob_5])), (ob_2, .inl (k 0, 32, .inl obg2)), (ob_3, .inl (k 0, 32, .inl obg3)), (ob_4, .inl (k 3, 400, .inl obg4)), (ob_5, .inl (k 0, 1001, .inl obg5)), (tn, .inr (10, [.int tnv0, .int tnv1, .int tnv2, .ref tn_3, .ref tn_4, .ref tn_5, .ref tn_6, .int tnv7, .int tnv8, .ref tn_9, .ref tn_10, .int tnv11, .ref tn_12, .ref tn_13, .ref tn_14, .ref tn_15, .int tnv16, .ref tn_17, .ref tn_18, .ref tnt]))] sz [.ref ob, .ref tn, .int p1]) (va_Qi (fun (r : Int32) (obg5z : (Nat → Int32)) => (0 ≤ r.toInt ∧ r.toInt ≤ 2147483647)) (fun (obg5z : (Nat → Int32)) tZ => Bw D k (va_A [(ob, .inr (2, [.int obv0, .ref obb, .ref ob_2, .ref ob_3, .ref ob_4, .ref ob_5])), (ob_2, .inl (k 0, 32, .inl obg2)), (ob_3, .inl (k 0, 32, .inl obg3)), (ob_4, .inl (k 3, 400, .inl obg4)), (ob_5, .inl (k 0, 1001, .inl obg5)), (tn, .inr (10, [.int tnv0, .int tnv1, .int tnv2, .ref tn_3, .ref tn_4, .ref tn_5, .ref tn_6, .int tnv7, .int tnv8, .ref tn_9, .ref tn_10, .int tnv11, .ref tn_12, .ref tn_13, .ref tn_14, .ref tn_15, .int tnv16, .ref tn_17, .ref tn_18, .ref tnt]))] sz) [(ob, .inr (2, [.int obv0, .ref obb, .ref ob_2, .ref ob_3, .ref ob_4, .ref ob_5])), (ob_2, .inl (k 0, 32, .inl obg2)), (ob_3, .inl (k 0, 32, .inl obg3)), (ob_4, .inl (k 3, 400, .inl obg4)), (ob_5, .inl (k 0, 1001, .inl obg5z)), (tn, .inr (10, [.int tnv0, .int tnv1, .int tnv2, .ref tn_3, .ref tn_4, .ref tn_5, .ref tn_6, .int tnv7, .int tnv8, .ref tn_9, .ref tn_10, .int tnv11, .ref tn_12, .ref tn_13, .ref tn_14, .ref tn_15, .int tnv16, .ref tn_17, .ref tn_18, .ref tnt]))] tZ) (va_A [(ob, .inr (2, [.int obv0, .ref obb, .ref ob_2, .ref ob_3, .ref ob_4, .ref ob_5])), (ob_2, .inl (k 0, 32, .inl obg2)), (ob_3, .inl (k 0, 32, .inl obg3)), (ob_4, .inl (k 3, 400, .inl obg4)), (ob_5, .inl (k 0, 1001, .inl obg5)), (tn, .inr (10, [.int tnv0, .int tnv1, .int tnv2, .ref tn_3, .ref tn_4, .ref tn_5, .ref tn_6, .int tnv7, .int tnv8, .ref tn_9, .ref tn_10, .int tnv11, .ref tn_12, .ref tn_13, .ref tn_14, .ref tn_15, .int tnv16, .ref tn_17, .ref tn_18, .ref tnt]))] sz)) 0 0 (va_A [(ob, .inr (2, [.int obv0, .ref obb, .ref ob_2, .ref ob_3, .ref ob_4, .ref ob_5])), (ob_2, .inl (k 0, 32, .inl obg2)), (ob_3, .inl (k 0, 32, .inl obg3)), (ob_4, .inl (k 3, 400, .inl obg4)), (ob_5, .inl (k 0, 1001, .inl obg5)), (tn, .inr (10, [.int tnv0, .int tnv1, .int tnv2, .ref tn_3, .ref tn_4, .ref tn_5, .ref tn_6, .int tnv7, .int tnv8, .ref tn_9, .ref tn_10, .int tnv11, .ref tn_12, .ref tn_13, .ref tn_14, .ref tn_15, .int tnv16, .ref tn_17, .ref tn_18, .ref tnt]))] sz) := by
  refine Met.ofW (cc := cX2_leftAtWorst) (maxL := 6) (ret := (some .int)) (by decide +kernel) rfl ?_
  intro p e s m args below meth c s₁ B hml hv
  obtain ⟨rfl, hsz, hP, hK, hD0, hN⟩ := hv
  have hx := B.exec
  have hb := B.bytes
  have hr := B.returns
  have hts : ∀ w ∈ TT, w.before _ s = true := fun w h => atoms_spec (ws := ww yX2_leftAtWorst cX2_leftAtWorst 6 (some .int)) B.pre w (List.mem_cons_of_mem _ h)
  have hown : s.vm.findClass RX2 = some m.cls := findClass_of_methodNamed B.named
  have hlocks := B.notSynchronized
  subst hsz
  have hD := hD0.self (sz := s.heap.size)
  generalize hAe : va_A [(ob, .inr (2, [.int obv0, .ref obb, .ref ob_2, .ref ob_3, .ref ob_4, .ref ob_5])), (ob_2, .inl (k 0, 32, .inl obg2)), (ob_3, .inl (k 0, 32, .inl obg3)), (ob_4, .inl (k 3, 400, .inl obg4)), (ob_5, .inl (k 0, 1001, .inl obg5)), (tn, .inr (10, [.int tnv0, .int tnv1, .int tnv2, .ref tn_3, .ref tn_4, .ref tn_5, .ref tn_6, .int tnv7, .int tnv8, .ref tn_9, .ref tn_10, .int tnv11, .ref tn_12, .ref tn_13, .ref tn_14, .ref tn_15, .int tnv16, .ref tn_17, .ref tn_18, .ref tnt]))] s.heap.size = A at hD ⊢
  have hA : ∀ q : Nat, s.heap.size ≤ q → A q := fun q h => by rw [← hAe]; exact Or.inr h
  have hS : va_S A s.heap s.heap [] := va_S.rf
  have hl := lv_entry ([.ref ob, .ref tn, .int p1]) (n := 6) (Nat.le_of_ble_eq_true rfl)
  rw [lg_entry_eq]
  generalize (lg_sl ([.ref ob, .ref tn, .int p1]) ++ List.replicate (6 - (lg_sl ([.ref ob, .ref tn, .int p1])).length) Slot.unset).toArray = ls at hl ⊢
  have hl : lv_has ls 6 [(0, .ref ob), (1, .ref tn), (2, .int p1)] := hl
  refine lv_aload_n hx hb dX2_leftAtWorst_0 rfl (lv_at hl 0 rfl) ?_
  refine va_get (D := D) (ci := 2) (v := .ref ob_5) (C := RX2) (T := TX2) (N := 6) hx hb hts iT_X2 hown hK hP 0 rfl rfl 5 (by decide) (hts _ tw_2_102) (fun _ h9 => h9) rfl dX2_leftAtWorst_1 ?_
  refine lv_iconst (v := 0) hx hb dX2_leftAtWorst_4 (by decide) ?_
  obtain ⟨hPc, hDc, hFc⟩ := sub3 hP hD hS hA (ws' := [(ob_5, .inl (k 0, 1001, .inl obg5))]) [4] (by decide +kernel) rfl
  refine va_callv (va_runS (As := [.ref ob_5, .int 0]) (rest := []) ⟨hx, hb, hml, hown, hts⟩ (c_J7_fill_53178_3 l D k ob_5 obg5 s.heap.size) (va_cwS 2 hts (gS tw_5_30 tw_3_193 tw_1_19 tw_3_194) rfl rfl rfl hdS_J7_fill_53178 ⟨Nat.le_of_ble_eq_true rfl, Nat.le_of_ble_eq_true rfl⟩) (cz_S hK hPc hDc hN [.ref ob_5, .int 0]) rfl rfl hl.1 rfl (lv_room (Nat.le_of_ble_eq_true rfl)) dX2_leftAtWorst_5 ⟨Nat.le_of_ble_eq_true rfl, Nat.le_of_ble_eq_true rfl⟩) hS (fun q _ h => hFc q h) hFc (fun uZ tZ H1 locs ht hvm hw hB hz1 hk1 hS => ?_)
  obtain ⟨o_2, rfl⟩ : ∃ z, z = uZ := ⟨_, rfl⟩
  obtain ⟨hP1, hK1, hD1⟩ := hB
  rw [ht] at hP1
  obtain ⟨hP, hD⟩ := va_join (wr := [(ob, .inr (2, [.int obv0, .ref obb, .ref ob_2, .ref ob_3, .ref ob_4, .ref ob_5])), (ob_2, .inl (k 0, 32, .inl obg2)), (ob_3, .inl (k 0, 32, .inl obg3)), (ob_4, .inl (k 3, 400, .inl obg4)), (tn, .inr (10, [.int tnv0, .int tnv1, .int tnv2, .ref tn_3, .ref tn_4, .ref tn_5, .ref tn_6, .int tnv7, .int tnv8, .ref tn_9, .ref tn_10, .int tnv11, .ref tn_12, .ref tn_13, .ref tn_14, .ref tn_15, .int tnv16, .ref tn_17, .ref tn_18, .ref tnt]))]) (w1 := [(ob_5, .inl (k 0, 1001, .inl o_2))]) hP hD [4] [0, 1, 2, 3, 5] rfl rfl (by decide +kernel) (by decide +kernel) hk1 hFc hP1 hD1
  clear hK1 hP1 hD1 hPc hDc hFc
  clear hk1 hz1 ht hvm
  have hP : va_P D vwCl [(ob, .inr (2, [.int obv0, .ref obb, .ref ob_2, .ref ob_3, .ref ob_4, .ref ob_5])), (ob_2, .inl (k 0, 32, .inl obg2)), (ob_3, .inl (k 0, 32, .inl obg3)), (ob_4, .inl (k 3, 400, .inl obg4)), (tn, .inr (10, [.int tnv0, .int tnv1, .int tnv2, .ref tn_3, .ref tn_4, .ref tn_5, .ref tn_6, .int tnv7, .int tnv8, .ref tn_9, .ref tn_10, .int tnv11, .ref tn_12, .ref tn_13, .ref tn_14, .ref tn_15, .int tnv16, .ref tn_17, .ref tn_18, .ref tnt])), (ob_5, .inl (k 0, 1001, .inl o_2))] H1 := hP
  have hD : va_D A [(ob, .inr (2, [.int obv0, .ref obb, .ref ob_2, .ref ob_3, .ref ob_4, .ref ob_5])), (ob_2, .inl (k 0, 32, .inl obg2)), (ob_3, .inl (k 0, 32, .inl obg3)), (ob_4, .inl (k 3, 400, .inl obg4)), (tn, .inr (10, [.int tnv0, .int tnv1, .int tnv2, .ref tn_3, .ref tn_4, .ref tn_5, .ref tn_6, .int tnv7, .int tnv8, .ref tn_9, .ref tn_10, .int tnv11, .ref tn_12, .ref tn_13, .ref tn_14, .ref tn_15, .int tnv16, .ref tn_17, .ref tn_18, .ref tnt])), (ob_5, .inl (k 0, 1001, .inl o_2))] := hD
  generalize H1 = H at hP hS ⊢
  have hw_3 : (PR 1001 1 0 0 0 o_2) := hw
  have hw_4 := hw_3
  clear hw
  refine lv_iconst (v := 0) hx hb dX2_leftAtWorst_8 (by decide) ?_
  refine lv_istore_n (lv' := [(3, .int 0), (0, .ref ob), (1, .ref tn), (2, .int p1)]) hx hb dX2_leftAtWorst_9 rfl hl (by decide) rfl (fun ls hl => ?_)
  refine lv_iconst (v := 0) hx hb dX2_leftAtWorst_10 (by decide) ?_
  refine lv_istore (lv' := [(4, .int 0), (3, .int 0), (0, .ref ob), (1, .ref tn), (2, .int p1)]) hx hb dX2_leftAtWorst_11 hl (by decide) rfl (fun ls hl => ?_)
  refine loop_r (Wg := fun H locs ls => W p l e _ s m _ below meth c H locs _ _ _ (F0 m 13 ls [])) (fun n9 H locs ls => ∃ (L13l3 : Int32) (L13l4 : Int32) (L13a5 : Nat → Int32), n9 = (400 - L13l4.toInt).toNat ∧ (0 ≤ L13l3.toInt ∧ L13l3.toInt ≤ 2147483647) ∧ (0 ≤ L13l4.toInt ∧ L13l4.toInt ≤ 400) ∧ va_P D vwCl [(ob, .inr (2, [.int obv0, .ref obb, .ref ob_2, .ref ob_3, .ref ob_4, .ref ob_5])), (ob_2, .inl (k 0, 32, .inl obg2)), (ob_3, .inl (k 0, 32, .inl obg3)), (ob_4, .inl (k 3, 400, .inl obg4)), (tn, .inr (10, [.int tnv0, .int tnv1, .int tnv2, .ref tn_3, .ref tn_4, .ref tn_5, .ref tn_6, .int tnv7, .int tnv8, .ref tn_9, .ref tn_10, .int tnv11, .ref tn_12, .ref tn_13, .ref tn_14, .ref tn_15, .int tnv16, .ref tn_17, .ref tn_18, .ref tnt])), (ob_5, .inl (k 0, 1001, .inl L13a5))] H ∧ va_D A [(ob, .inr (2, [.int obv0, .ref obb, .ref ob_2, .ref ob_3, .ref ob_4, .ref ob_5])), (ob_2, .inl (k 0, 32, .inl obg2)), (ob_3, .inl (k 0, 32, .inl obg3)), (ob_4, .inl (k 3, 400, .inl obg4)), (tn, .inr (10, [.int tnv0, .int tnv1, .int tnv2, .ref tn_3, .ref tn_4, .ref tn_5, .ref tn_6, .int tnv7, .int tnv8, .ref tn_9, .ref tn_10, .int tnv11, .ref tn_12, .ref tn_13, .ref tn_14, .ref tn_15, .int tnv16, .ref tn_17, .ref tn_18, .ref tnt])), (ob_5, .inl (k 0, 1001, .inl L13a5))] ∧ va_S A s.heap H locs ∧ lv_has ls 6 [(0, .ref ob), (1, .ref tn), (2, .int p1), (3, .int L13l3), (4, .int L13l4)]) (fun n9 H locs ls hI ih_5 => ?_) _ _ _ _ ⟨0, 0, o_2, rfl, (show 0 ≤ 0 ∧ 0 ≤ 2147483647 from by omega), (show 0 ≤ 0 ∧ 0 ≤ 400 from by omega), hP.sub (ws' := [(ob, .inr (2, [.int obv0, .ref obb, .ref ob_2, .ref ob_3, .ref ob_4, .ref ob_5])), (ob_2, .inl (k 0, 32, .inl obg2)), (ob_3, .inl (k 0, 32, .inl obg3)), (ob_4, .inl (k 3, 400, .inl obg4)), (tn, .inr (10, [.int tnv0, .int tnv1, .int tnv2, .ref tn_3, .ref tn_4, .ref tn_5, .ref tn_6, .int tnv7, .int tnv8, .ref tn_9, .ref tn_10, .int tnv11, .ref tn_12, .ref tn_13, .ref tn_14, .ref tn_15, .int tnv16, .ref tn_17, .ref tn_18, .ref tnt])), (ob_5, .inl (k 0, 1001, .inl o_2))]) [0, 1, 2, 3, 4, 5] rfl, hD.sub (ws' := [(ob, .inr (2, [.int obv0, .ref obb, .ref ob_2, .ref ob_3, .ref ob_4, .ref ob_5])), (ob_2, .inl (k 0, 32, .inl obg2)), (ob_3, .inl (k 0, 32, .inl obg3)), (ob_4, .inl (k 3, 400, .inl obg4)), (tn, .inr (10, [.int tnv0, .int tnv1, .int tnv2, .ref tn_3, .ref tn_4, .ref tn_5, .ref tn_6, .int tnv7, .int tnv8, .ref tn_9, .ref tn_10, .int tnv11, .ref tn_12, .ref tn_13, .ref tn_14, .ref tn_15, .int tnv16, .ref tn_17, .ref tn_18, .ref tnt])), (ob_5, .inl (k 0, 1001, .inl o_2))]) [0, 1, 2, 3, 4, 5] (by decide +kernel) rfl, hS, lv_sub hl [2, 3, 4, 1, 0] rfl⟩
  clear hP hD hS hl
  obtain ⟨L13l3, L13l4, L13a5, en_6, zL13l3, zL13l4, hP, hD, hS, hl⟩ := hI
  refine lv_iload hx hb dX2_leftAtWorst_13 (lv_at hl 4 rfl) ?_
  refine lv_aload_n hx hb dX2_leftAtWorst_15 rfl (lv_at hl 1 rfl) ?_
  refine va_get (D := D) (ci := 10) (v := .int tnv8) (C := RX10) (T := TX10) (N := 20) hx hb hts iT_X10 hown hK hP 4 rfl rfl 8 (by decide) (hts _ tw_1_105) (fun _ h9 => h9) rfl dX2_leftAtWorst_16 ?_
  refine lv_bipush (v := 100) hx hb dX2_leftAtWorst_19 (by decide) ?_
  refine lv_imul hx hb dX2_leftAtWorst_21 ?_
  refine lv_topi (fun x_7 ex_7 => ?_)
  have zx_7 : x_7.toInt = tnv8.toInt * 100 := by rw [ex_7]; exact z_mul rfl rfl (by omega) (by omega)
  refine lv_icmp_ge (tgt := 87) hx hb dX2_leftAtWorst_22 (by decide) (fun h_8 => ?_) (fun h_8 => ?_)
  · skip
    have zh_8 : x_7.toInt ≤ L13l4.toInt := z_le h_8
    refine lv_iload_n hx hb dX2_leftAtWorst_87 rfl (lv_at hl 3 rfl) ?_
    obtain ⟨hP9, hD9⟩ := sub2 hP hD (ws' := [(ob, .inr (2, [.int obv0, .ref obb, .ref ob_2, .ref ob_3, .ref ob_4, .ref ob_5])), (ob_2, .inl (k 0, 32, .inl obg2)), (ob_3, .inl (k 0, 32, .inl obg3)), (ob_4, .inl (k 3, 400, .inl obg4)), (ob_5, .inl (k 0, 1001, .inl L13a5)), (tn, .inr (10, [.int tnv0, .int tnv1, .int tnv2, .ref tn_3, .ref tn_4, .ref tn_5, .ref tn_6, .int tnv7, .int tnv8, .ref tn_9, .ref tn_10, .int tnv11, .ref tn_12, .ref tn_13, .ref tn_14, .ref tn_15, .int tnv16, .ref tn_17, .ref tn_18, .ref tnt]))]) [0, 1, 2, 3, 5, 4] (by decide +kernel) rfl
    exact W.iret (v := L13l3) hx hb hr (fun tZ ht hW => ⟨⟨L13l3, L13a5, rfl, (show 0 ≤ L13l3.toInt ∧ L13l3.toInt ≤ 2147483647 from by have := z_rng L13l3; omega), by rw [ht]; exact hP9, va_K.moved hW.alike hK, hD9⟩, hS.F ht⟩) hS.2.2 dX2_leftAtWorst_88
  · skip
    have zh_8 : L13l4.toInt < x_7.toInt := z_nle h_8
    refine lv_aload_n hx hb dX2_leftAtWorst_25 rfl (lv_at hl 0 rfl) ?_
    refine va_get (D := D) (ci := 2) (v := .ref ob_4) (C := RX2) (T := TX2) (N := 6) hx hb hts iT_X2 hown hK hP 0 rfl rfl 4 (by decide) (hts _ tw_2_101) (fun _ h9 => h9) rfl dX2_leftAtWorst_26 ?_
    refine lv_iload hx hb dX2_leftAtWorst_29 (lv_at hl 4 rfl) ?_
    refine va_zald hx hb hK hP 3 3 rfl rfl (z_in (by omega) (by omega)) dX2_leftAtWorst_31 ?_
    refine lv_topi (fun x_9 ex_9 => ?_)
    refine lv_if_eq (tgt := 81) hx hb dX2_leftAtWorst_32 (by decide) (fun h_10 => ?_) (fun h_10 => ?_)
    · skip
      have zh_10 : x_9.toInt = 0 := z_eq h_10
      obtain ⟨x_11, ex_11⟩ : ∃ y : Int32, y = L13l4 + 1 := ⟨_, rfl⟩
      have zx_11 : x_11.toInt = L13l4.toInt + 1 := by rw [ex_11]; exact z_add rfl rfl (by omega) (by omega)
      refine lv_iinc (v := x_11) (lv' := [(4, .int x_11), (0, .ref ob), (1, .ref tn), (2, .int p1), (3, .int L13l3)]) hx hb dX2_leftAtWorst_81 hl (k := 4) rfl (by rw [ex_11]; rfl) (by decide) rfl (fun ls hl => ?_)
      refine lv_goto (tgt := 13) hx hb dX2_leftAtWorst_84 (by decide) ?_
      exact ih_5 _ _ _ _ (by omega) ⟨L13l3, x_11, L13a5, rfl, (show 0 ≤ L13l3.toInt ∧ L13l3.toInt ≤ 2147483647 from by have := z_rng L13l3; omega), (show 0 ≤ x_11.toInt ∧ x_11.toInt ≤ 400 from by omega), hP.sub (ws' := [(ob, .inr (2, [.int obv0, .ref obb, .ref ob_2, .ref ob_3, .ref ob_4, .ref ob_5])), (ob_2, .inl (k 0, 32, .inl obg2)), (ob_3, .inl (k 0, 32, .inl obg3)), (ob_4, .inl (k 3, 400, .inl obg4)), (tn, .inr (10, [.int tnv0, .int tnv1, .int tnv2, .ref tn_3, .ref tn_4, .ref tn_5, .ref tn_6, .int tnv7, .int tnv8, .ref tn_9, .ref tn_10, .int tnv11, .ref tn_12, .ref tn_13, .ref tn_14, .ref tn_15, .int tnv16, .ref tn_17, .ref tn_18, .ref tnt])), (ob_5, .inl (k 0, 1001, .inl L13a5))]) [0, 1, 2, 3, 4, 5] rfl, hD.sub (ws' := [(ob, .inr (2, [.int obv0, .ref obb, .ref ob_2, .ref ob_3, .ref ob_4, .ref ob_5])), (ob_2, .inl (k 0, 32, .inl obg2)), (ob_3, .inl (k 0, 32, .inl obg3)), (ob_4, .inl (k 3, 400, .inl obg4)), (tn, .inr (10, [.int tnv0, .int tnv1, .int tnv2, .ref tn_3, .ref tn_4, .ref tn_5, .ref tn_6, .int tnv7, .int tnv8, .ref tn_9, .ref tn_10, .int tnv11, .ref tn_12, .ref tn_13, .ref tn_14, .ref tn_15, .int tnv16, .ref tn_17, .ref tn_18, .ref tnt])), (ob_5, .inl (k 0, 1001, .inl L13a5))]) [0, 1, 2, 3, 4, 5] (by decide +kernel) rfl, hS, lv_sub hl [1, 2, 3, 4, 0] rfl⟩
    · skip
      have zh_10 : ¬ x_9.toInt = 0 := z_ne h_10
      refine lv_aload_n hx hb dX2_leftAtWorst_35 rfl (lv_at hl 0 rfl) ?_
      refine lv_iload hx hb dX2_leftAtWorst_36 (lv_at hl 4 rfl) ?_
      refine lv_bipush (v := 100) hx hb dX2_leftAtWorst_38 (by decide) ?_
      refine lv_idiv hx hb dX2_leftAtWorst_40 (by decide) ?_
      refine lv_topi (fun x_12 ex_12 => ?_)
      have zx_12 : x_12.toInt = L13l4.toInt / 100 := by rw [ex_12]; exact z_div rfl rfl (by omega) (by decide) (by decide)
      refine lv_iload hx hb dX2_leftAtWorst_41 (lv_at hl 4 rfl) ?_
      refine lv_bipush (v := 100) hx hb dX2_leftAtWorst_43 (by decide) ?_
      refine lv_irem hx hb dX2_leftAtWorst_45 (by decide) ?_
      refine lv_topi (fun x_13 ex_13 => ?_)
      have zx_13 : x_13.toInt = L13l4.toInt % 100 := by rw [ex_13]; exact z_rem rfl rfl (by omega) (by decide) (by decide)
      refine lv_iload_n hx hb dX2_leftAtWorst_46 rfl (lv_at hl 2 rfl) ?_
      obtain ⟨hPc, hDc, hFc⟩ := sub3 hP hD hS hA (ws' := [(ob, .inr (2, [.int obv0, .ref obb, .ref ob_2, .ref ob_3, .ref ob_4, .ref ob_5])), (ob_2, .inl (k 0, 32, .inl obg2)), (ob_3, .inl (k 0, 32, .inl obg3))]) [0, 1, 2] (by decide +kernel) rfl
      refine va_calli (va_runV (C := RX2) (As := [.int x_12, .int x_13, .int p1]) (rest := []) ⟨hx, hb, hml, hown, hts⟩ (c_X2_minuteWith l D k ob x_12 x_13 p1 obv0 obb ob_2 ob_3 ob_4 ob_5 obg2 obg3 H.size (show 0 ≤ x_12.toInt ∧ x_12.toInt ≤ 3 from by omega) (show 0 ≤ x_13.toInt ∧ x_13.toInt ≤ 99 from by omega) (show 0 ≤ p1.toInt ∧ p1.toInt ≤ 7 from by omega) hp_obg2_0 hp_obg3_0) (cwV 3 hts (gV tw_4_198 tw_4_181 tw_4_182 tw_1_9 tw_4_183) rfl rfl rfl hdV_X2_minuteWith ⟨Nat.le_of_ble_eq_true rfl, Nat.le_of_ble_eq_true rfl⟩) (cz_V hK hPc hDc hN (ci := 2) (q0 := 0) rfl rfl [.int x_12, .int x_13, .int p1]) rfl rfl hl.1 rfl (lv_room (Nat.le_of_ble_eq_true rfl)) dX2_leftAtWorst_47 ⟨Nat.le_of_ble_eq_true rfl, Nat.le_of_ble_eq_true rfl⟩) hS (fun q _ h => hFc q h) hFc (fun r_14 uZ tZ H1 locs ht hvm hw hB hz1 hk1 hS => ?_)
      obtain ⟨hP1, hK1, hD1⟩ := hB
      rw [ht] at hP1
      obtain ⟨hP, hD⟩ := va_join (wr := [(ob_4, .inl (k 3, 400, .inl obg4)), (tn, .inr (10, [.int tnv0, .int tnv1, .int tnv2, .ref tn_3, .ref tn_4, .ref tn_5, .ref tn_6, .int tnv7, .int tnv8, .ref tn_9, .ref tn_10, .int tnv11, .ref tn_12, .ref tn_13, .ref tn_14, .ref tn_15, .int tnv16, .ref tn_17, .ref tn_18, .ref tnt])), (ob_5, .inl (k 0, 1001, .inl L13a5))]) (w1 := [(ob, .inr (2, [.int obv0, .ref obb, .ref ob_2, .ref ob_3, .ref ob_4, .ref ob_5])), (ob_2, .inl (k 0, 32, .inl obg2)), (ob_3, .inl (k 0, 32, .inl obg3))]) hP hD [0, 1, 2] [3, 4, 5] rfl rfl (by decide +kernel) (by decide +kernel) hk1 hFc hP1 hD1
      clear hK1 hP1 hD1 hPc hDc hFc
      clear hk1 hz1 ht hvm
      have hP : va_P D vwCl [(ob_4, .inl (k 3, 400, .inl obg4)), (tn, .inr (10, [.int tnv0, .int tnv1, .int tnv2, .ref tn_3, .ref tn_4, .ref tn_5, .ref tn_6, .int tnv7, .int tnv8, .ref tn_9, .ref tn_10, .int tnv11, .ref tn_12, .ref tn_13, .ref tn_14, .ref tn_15, .int tnv16, .ref tn_17, .ref tn_18, .ref tnt])), (ob_5, .inl (k 0, 1001, .inl L13a5)), (ob, .inr (2, [.int obv0, .ref obb, .ref ob_2, .ref ob_3, .ref ob_4, .ref ob_5])), (ob_2, .inl (k 0, 32, .inl obg2)), (ob_3, .inl (k 0, 32, .inl obg3))] H1 := hP
      have hD : va_D A [(ob_4, .inl (k 3, 400, .inl obg4)), (tn, .inr (10, [.int tnv0, .int tnv1, .int tnv2, .ref tn_3, .ref tn_4, .ref tn_5, .ref tn_6, .int tnv7, .int tnv8, .ref tn_9, .ref tn_10, .int tnv11, .ref tn_12, .ref tn_13, .ref tn_14, .ref tn_15, .int tnv16, .ref tn_17, .ref tn_18, .ref tnt])), (ob_5, .inl (k 0, 1001, .inl L13a5)), (ob, .inr (2, [.int obv0, .ref obb, .ref ob_2, .ref ob_3, .ref ob_4, .ref ob_5])), (ob_2, .inl (k 0, 32, .inl obg2)), (ob_3, .inl (k 0, 32, .inl obg3))] := hD
      generalize H1 = H at hP hS ⊢
      have hw_15 : (0 ≤ r_14.toInt ∧ r_14.toInt ≤ 1000000) := hw
      have hw_16 := hw_15
      clear hw
      refine lv_sipush (v := 1000) hx hb dX2_leftAtWorst_50 (by decide) ?_
      obtain ⟨hPc, hDc, hFc⟩ := sub3 hP hD hS hA (ws' := []) [] (by decide +kernel) rfl
      refine va_calli (va_runS (As := [.int r_14, .int 1000]) (rest := []) ⟨hx, hb, hml, hown, hts⟩ (c_J9_min_7cf53 l D k r_14 1000 H.size) (va_cwS 2 hts (gS tw_4_184 tw_3_17 tw_1_14 tw_3_18) rfl rfl rfl hdS_J9_min_7cf53 ⟨Nat.le_of_ble_eq_true rfl, Nat.le_of_ble_eq_true rfl⟩) (cz_S hK hPc hDc hN [.int r_14, .int 1000]) rfl rfl hl.1 rfl (lv_room (Nat.le_of_ble_eq_true rfl)) dX2_leftAtWorst_53 ⟨Nat.le_of_ble_eq_true rfl, Nat.le_of_ble_eq_true rfl⟩) hS (fun q _ h => hFc q h) hFc (fun r_17 uZ tZ H1 locs ht hvm hw hB hz1 hk1 hS => ?_)
      obtain ⟨hP1, hK1, hD1⟩ := hB
      rw [ht] at hP1
      obtain ⟨hP, hD⟩ := va_join (wr := [(ob_4, .inl (k 3, 400, .inl obg4)), (tn, .inr (10, [.int tnv0, .int tnv1, .int tnv2, .ref tn_3, .ref tn_4, .ref tn_5, .ref tn_6, .int tnv7, .int tnv8, .ref tn_9, .ref tn_10, .int tnv11, .ref tn_12, .ref tn_13, .ref tn_14, .ref tn_15, .int tnv16, .ref tn_17, .ref tn_18, .ref tnt])), (ob_5, .inl (k 0, 1001, .inl L13a5)), (ob, .inr (2, [.int obv0, .ref obb, .ref ob_2, .ref ob_3, .ref ob_4, .ref ob_5])), (ob_2, .inl (k 0, 32, .inl obg2)), (ob_3, .inl (k 0, 32, .inl obg3))]) (w1 := []) hP hD [] [0, 1, 2, 3, 4, 5] rfl rfl (by decide +kernel) (by decide +kernel) hk1 hFc hP1 hD1
      clear hK1 hP1 hD1 hPc hDc hFc
      clear hk1 hz1 ht hvm
      have hP : va_P D vwCl [(ob_4, .inl (k 3, 400, .inl obg4)), (tn, .inr (10, [.int tnv0, .int tnv1, .int tnv2, .ref tn_3, .ref tn_4, .ref tn_5, .ref tn_6, .int tnv7, .int tnv8, .ref tn_9, .ref tn_10, .int tnv11, .ref tn_12, .ref tn_13, .ref tn_14, .ref tn_15, .int tnv16, .ref tn_17, .ref tn_18, .ref tnt])), (ob_5, .inl (k 0, 1001, .inl L13a5)), (ob, .inr (2, [.int obv0, .ref obb, .ref ob_2, .ref ob_3, .ref ob_4, .ref ob_5])), (ob_2, .inl (k 0, 32, .inl obg2)), (ob_3, .inl (k 0, 32, .inl obg3))] H1 := hP
      have hD : va_D A [(ob_4, .inl (k 3, 400, .inl obg4)), (tn, .inr (10, [.int tnv0, .int tnv1, .int tnv2, .ref tn_3, .ref tn_4, .ref tn_5, .ref tn_6, .int tnv7, .int tnv8, .ref tn_9, .ref tn_10, .int tnv11, .ref tn_12, .ref tn_13, .ref tn_14, .ref tn_15, .int tnv16, .ref tn_17, .ref tn_18, .ref tnt])), (ob_5, .inl (k 0, 1001, .inl L13a5)), (ob, .inr (2, [.int obv0, .ref obb, .ref ob_2, .ref ob_3, .ref ob_4, .ref ob_5])), (ob_2, .inl (k 0, 32, .inl obg2)), (ob_3, .inl (k 0, 32, .inl obg3))] := hD
      generalize H1 = H at hP hS ⊢
      have hw_18 : (r_17.toInt ≤ r_14.toInt ∧ r_17.toInt ≤ 1000 ∧ (r_17.toInt = r_14.toInt ∨ r_17.toInt = 1000)) := hw
      have hw_19 := hw_18
      clear hw
      refine lv_istore (lv' := [(5, .int r_17), (0, .ref ob), (1, .ref tn), (2, .int p1), (3, .int L13l3), (4, .int L13l4)]) hx hb dX2_leftAtWorst_56 hl (by decide) rfl (fun ls hl => ?_)
      refine lv_aload_n hx hb dX2_leftAtWorst_58 rfl (lv_at hl 1 rfl) ?_
      refine va_get (D := D) (ci := 2) (v := .ref ob_5) (C := RX2) (T := TX2) (N := 6) hx hb hts iT_X2 hown hK hP 3 rfl rfl 5 (by decide) (hts _ tw_2_102) (fun _ h9 => h9) rfl dX2_leftAtWorst_59 ?_
      refine lv_iload hx hb dX2_leftAtWorst_62 (lv_at hl 0 rfl) ?_
      refine lv_dup2_11 hx hb dX2_leftAtWorst_64 rfl rfl ?_
      refine va_iald hx hb hK hP 2 0 rfl rfl (z_in (by omega) (by omega)) dX2_leftAtWorst_65 ?_
      refine lv_topi (fun x_20 ex_20 => ?_)
      refine lv_iconst (v := 1) hx hb dX2_leftAtWorst_66 (by decide) ?_
      refine lv_iadd hx hb dX2_leftAtWorst_67 ?_
      refine lv_topi (fun x_21 ex_21 => ?_)
      have zrx_20 := z_rng x_20
      refine va_iast hx hb hK hP hD hS 2 0 rfl rfl (z_in (by omega) (by omega)) dX2_leftAtWorst_68 (fun H locs hP hD hS => ?_)
      obtain ⟨g_22, eg_22⟩ : ∃ z : Nat → Int32, upd L13a5 r_17.toNatClampNeg x_21 = z := ⟨_, rfl⟩
      have hP : va_P D vwCl [(ob_4, .inl (k 3, 400, .inl obg4)), (tn, .inr (10, [.int tnv0, .int tnv1, .int tnv2, .ref tn_3, .ref tn_4, .ref tn_5, .ref tn_6, .int tnv7, .int tnv8, .ref tn_9, .ref tn_10, .int tnv11, .ref tn_12, .ref tn_13, .ref tn_14, .ref tn_15, .int tnv16, .ref tn_17, .ref tn_18, .ref tnt])), (ob_5, .inl (k 0, 1001, .inl (upd L13a5 r_17.toNatClampNeg x_21))), (ob, .inr (2, [.int obv0, .ref obb, .ref ob_2, .ref ob_3, .ref ob_4, .ref ob_5])), (ob_2, .inl (k 0, 32, .inl obg2)), (ob_3, .inl (k 0, 32, .inl obg3))] H := hP
      have hD : va_D A [(ob_4, .inl (k 3, 400, .inl obg4)), (tn, .inr (10, [.int tnv0, .int tnv1, .int tnv2, .ref tn_3, .ref tn_4, .ref tn_5, .ref tn_6, .int tnv7, .int tnv8, .ref tn_9, .ref tn_10, .int tnv11, .ref tn_12, .ref tn_13, .ref tn_14, .ref tn_15, .int tnv16, .ref tn_17, .ref tn_18, .ref tnt])), (ob_5, .inl (k 0, 1001, .inl (upd L13a5 r_17.toNatClampNeg x_21))), (ob, .inr (2, [.int obv0, .ref obb, .ref ob_2, .ref ob_3, .ref ob_4, .ref ob_5])), (ob_2, .inl (k 0, 32, .inl obg2)), (ob_3, .inl (k 0, 32, .inl obg3))] := hD
      rw [eg_22] at hP hD
      refine lv_iload_n hx hb dX2_leftAtWorst_69 rfl (lv_at hl 4 rfl) ?_
      refine lv_aload_n hx hb dX2_leftAtWorst_70 rfl (lv_at hl 1 rfl) ?_
      refine va_get (D := D) (ci := 2) (v := .ref ob_5) (C := RX2) (T := TX2) (N := 6) hx hb hts iT_X2 hown hK hP 3 rfl rfl 5 (by decide) (hts _ tw_2_102) (fun _ h9 => h9) rfl dX2_leftAtWorst_71 ?_
      refine lv_iload hx hb dX2_leftAtWorst_74 (lv_at hl 0 rfl) ?_
      refine va_iald hx hb hK hP 2 0 rfl rfl (z_in (by omega) (by omega)) dX2_leftAtWorst_76 ?_
      refine lv_topi (fun x_23 ex_23 => ?_)
      obtain rfl : x_21 = x_23 := ((ex_23.trans (by rw [← eg_22]; exact pk_us))).symm
      obtain ⟨hPc, hDc, hFc⟩ := sub3 hP hD hS hA (ws' := []) [] (by decide +kernel) rfl
      refine va_calli (va_runS (As := [.int L13l3, .int x_21]) (rest := []) ⟨hx, hb, hml, hown, hts⟩ (c_J9_max_7cf53 l D k L13l3 x_21 H.size) (va_cwS 2 hts (gS tw_5_31 tw_4_11 tw_1_14 tw_4_12) rfl rfl rfl hdS_J9_max_7cf53 ⟨Nat.le_of_ble_eq_true rfl, Nat.le_of_ble_eq_true rfl⟩) (cz_S hK hPc hDc hN [.int L13l3, .int x_21]) rfl rfl hl.1 rfl (lv_room (Nat.le_of_ble_eq_true rfl)) dX2_leftAtWorst_77 ⟨Nat.le_of_ble_eq_true rfl, Nat.le_of_ble_eq_true rfl⟩) hS (fun q _ h => hFc q h) hFc (fun r_24 uZ tZ H1 locs ht hvm hw hB hz1 hk1 hS => ?_)
      obtain ⟨hP1, hK1, hD1⟩ := hB
      rw [ht] at hP1
      obtain ⟨hP, hD⟩ := va_join (wr := [(ob_4, .inl (k 3, 400, .inl obg4)), (tn, .inr (10, [.int tnv0, .int tnv1, .int tnv2, .ref tn_3, .ref tn_4, .ref tn_5, .ref tn_6, .int tnv7, .int tnv8, .ref tn_9, .ref tn_10, .int tnv11, .ref tn_12, .ref tn_13, .ref tn_14, .ref tn_15, .int tnv16, .ref tn_17, .ref tn_18, .ref tnt])), (ob_5, .inl (k 0, 1001, .inl g_22)), (ob, .inr (2, [.int obv0, .ref obb, .ref ob_2, .ref ob_3, .ref ob_4, .ref ob_5])), (ob_2, .inl (k 0, 32, .inl obg2)), (ob_3, .inl (k 0, 32, .inl obg3))]) (w1 := []) hP hD [] [0, 1, 2, 3, 4, 5] rfl rfl (by decide +kernel) (by decide +kernel) hk1 hFc hP1 hD1
      clear hK1 hP1 hD1 hPc hDc hFc
      clear hk1 hz1 ht hvm
      have hP : va_P D vwCl [(ob_4, .inl (k 3, 400, .inl obg4)), (tn, .inr (10, [.int tnv0, .int tnv1, .int tnv2, .ref tn_3, .ref tn_4, .ref tn_5, .ref tn_6, .int tnv7, .int tnv8, .ref tn_9, .ref tn_10, .int tnv11, .ref tn_12, .ref tn_13, .ref tn_14, .ref tn_15, .int tnv16, .ref tn_17, .ref tn_18, .ref tnt])), (ob_5, .inl (k 0, 1001, .inl g_22)), (ob, .inr (2, [.int obv0, .ref obb, .ref ob_2, .ref ob_3, .ref ob_4, .ref ob_5])), (ob_2, .inl (k 0, 32, .inl obg2)), (ob_3, .inl (k 0, 32, .inl obg3))] H1 := hP
      have hD : va_D A [(ob_4, .inl (k 3, 400, .inl obg4)), (tn, .inr (10, [.int tnv0, .int tnv1, .int tnv2, .ref tn_3, .ref tn_4, .ref tn_5, .ref tn_6, .int tnv7, .int tnv8, .ref tn_9, .ref tn_10, .int tnv11, .ref tn_12, .ref tn_13, .ref tn_14, .ref tn_15, .int tnv16, .ref tn_17, .ref tn_18, .ref tnt])), (ob_5, .inl (k 0, 1001, .inl g_22)), (ob, .inr (2, [.int obv0, .ref obb, .ref ob_2, .ref ob_3, .ref ob_4, .ref ob_5])), (ob_2, .inl (k 0, 32, .inl obg2)), (ob_3, .inl (k 0, 32, .inl obg3))] := hD
      generalize H1 = H at hP hS ⊢
      have hw_25 : (L13l3.toInt ≤ r_24.toInt ∧ x_21.toInt ≤ r_24.toInt ∧ (r_24.toInt = L13l3.toInt ∨ r_24.toInt = x_21.toInt)) := hw
      have hw_26 := hw_25
      clear hw
      refine lv_istore_n (lv' := [(3, .int r_24), (5, .int r_17), (0, .ref ob), (1, .ref tn), (2, .int p1), (4, .int L13l4)]) hx hb dX2_leftAtWorst_80 rfl hl (by decide) rfl (fun ls hl => ?_)
      obtain ⟨x_27, ex_27⟩ : ∃ y : Int32, y = L13l4 + 1 := ⟨_, rfl⟩
      have zx_27 : x_27.toInt = L13l4.toInt + 1 := by rw [ex_27]; exact z_add rfl rfl (by omega) (by omega)
      refine lv_iinc (v := x_27) (lv' := [(4, .int x_27), (3, .int r_24), (5, .int r_17), (0, .ref ob), (1, .ref tn), (2, .int p1)]) hx hb dX2_leftAtWorst_81 hl (k := 5) rfl (by rw [ex_27]; rfl) (by decide) rfl (fun ls hl => ?_)
      refine lv_goto (tgt := 13) hx hb dX2_leftAtWorst_84 (by decide) ?_
      exact ih_5 _ _ _ _ (by omega) ⟨r_24, x_27, g_22, rfl, (show 0 ≤ r_24.toInt ∧ r_24.toInt ≤ 2147483647 from by have := z_rng r_24; omega), (show 0 ≤ x_27.toInt ∧ x_27.toInt ≤ 400 from by omega), hP.sub (ws' := [(ob, .inr (2, [.int obv0, .ref obb, .ref ob_2, .ref ob_3, .ref ob_4, .ref ob_5])), (ob_2, .inl (k 0, 32, .inl obg2)), (ob_3, .inl (k 0, 32, .inl obg3)), (ob_4, .inl (k 3, 400, .inl obg4)), (tn, .inr (10, [.int tnv0, .int tnv1, .int tnv2, .ref tn_3, .ref tn_4, .ref tn_5, .ref tn_6, .int tnv7, .int tnv8, .ref tn_9, .ref tn_10, .int tnv11, .ref tn_12, .ref tn_13, .ref tn_14, .ref tn_15, .int tnv16, .ref tn_17, .ref tn_18, .ref tnt])), (ob_5, .inl (k 0, 1001, .inl g_22))]) [3, 4, 5, 0, 1, 2] rfl, hD.sub (ws' := [(ob, .inr (2, [.int obv0, .ref obb, .ref ob_2, .ref ob_3, .ref ob_4, .ref ob_5])), (ob_2, .inl (k 0, 32, .inl obg2)), (ob_3, .inl (k 0, 32, .inl obg3)), (ob_4, .inl (k 3, 400, .inl obg4)), (tn, .inr (10, [.int tnv0, .int tnv1, .int tnv2, .ref tn_3, .ref tn_4, .ref tn_5, .ref tn_6, .int tnv7, .int tnv8, .ref tn_9, .ref tn_10, .int tnv11, .ref tn_12, .ref tn_13, .ref tn_14, .ref tn_15, .int tnv16, .ref tn_17, .ref tn_18, .ref tnt])), (ob_5, .inl (k 0, 1001, .inl g_22))]) [3, 4, 5, 0, 1, 2] (by decide +kernel) rfl, hS, lv_sub hl [3, 4, 5, 1, 0] rfl⟩
set_option maxHeartbeats 4000000 in
set_option maxRecDepth 100000 in
theorem c_X2_tellingStreet (l : Launch) (D : va_G) (k : Nat → ClassId) (ob : Nat) (tn : Nat) (obv0 : Int32) (obb : Nat) (ob_2 : Nat) (ob_3 : Nat) (ob_4 : Nat) (ob_5 : Nat) (obg2 : Nat → Int32) (obg3 : Nat → Int32) (obg4 : Nat → Int32) (obg5 : Nat → Int32) (tnv0 : Int32) (tnv1 : Int32) (tnv2 : Int32) (tn_3 : Nat) (tn_4 : Nat) (tn_5 : Nat) (tn_6 : Nat) (tnv7 : Int32) (tnv8 : Int32) (tn_9 : Nat) (tn_10 : Nat) (tnv11 : Int32) (tn_12 : Nat) (tn_13 : Nat) (tn_14 : Nat) (tn_15 : Nat) (tnv16 : Int32) (tn_17 : Nat) (tn_18 : Nat) (tnt : Nat) (sz : Nat) (hp_obg2_0 : PR 32 1 0 0 1000000 obg2) (hp_obg3_0 : PR 32 1 0 0 1000000 obg3) (h_tnv0 : 0 ≤ tnv0.toInt ∧ tnv0.toInt ≤ 8) (h_tnv2 : 0 ≤ tnv2.toInt ∧ tnv2.toInt ≤ 10) (h_tnv8 : 0 ≤ tnv8.toInt ∧ tnv8.toInt ≤ 4) (h_tnv11 : 0 ≤ tnv11.toInt ∧ tnv11.toInt ≤ 6) (h_tnv16 : 0 ≤ tnv16.toInt ∧ tnv16.toInt ≤ 2) : Met l yX2_tellingStreet (ww yX2_tellingStreet cX2_tellingStreet 6 (some .int)) ({ frames := 3, cells := 0, slots := 0, locals := 70 }) (Pre0 D k [(ob, .inr (2, [.int obv0, .ref obb, .ref ob_2, .ref ob_3, .ref ob_4, .ref ob_5])), (ob_2, .inl (k 0, 32, .inl obg2)), (ob_3, .inl (k 0, 32, .inl obg3)), (ob_4, .inl (k 3, 400, .inl obg4)), (ob_5, .inl (k 0, 1001, .inl obg5)), (tn, .inr (10, [.int tnv0, .int tnv1, .int tnv2, .ref tn_3, .ref tn_4, .ref tn_5, .ref tn_6, .int tnv7, .int tnv8, .ref tn_9, .ref tn_10, .int tnv11, .ref tn_12, .ref tn_13, .ref tn_14, .ref tn_15, .int tnv16, .ref tn_17, .ref tn_18, .ref tnt]))] sz [.ref ob, .ref tn]) (va_Qi (fun (r : Int32) (obg5z : (Nat → Int32)) => ((-1) ≤ r.toInt ∧ r.toInt ≤ 7)) (fun (obg5z : (Nat → Int32)) tZ => Bw D k (va_A [(ob, .inr (2, [.int obv0, .ref obb, .ref ob_2, .ref ob_3, .ref ob_4, .ref ob_5])), (ob_2, .inl (k 0, 32, .inl obg2)), (ob_3, .inl (k 0, 32, .inl obg3)), (ob_4, .inl (k 3, 400, .inl obg4)), (ob_5, .inl (k 0, 1001, .inl obg5)), (tn, .inr (10, [.int tnv0, .int tnv1, .int tnv2, .ref tn_3, .ref tn_4, .ref tn_5, .ref tn_6, .int tnv7, .int tnv8, .ref tn_9, .ref tn_10, .int tnv11, .ref tn_12, .ref tn_13, .ref tn_14, .ref tn_15, .int tnv16, .ref tn_17, .ref tn_18, .ref tnt]))] sz) [(ob, .inr (2, [.int obv0, .ref obb, .ref ob_2, .ref ob_3, .ref ob_4, .ref ob_5])), (ob_2, .inl (k 0, 32, .inl obg2)), (ob_3, .inl (k 0, 32, .inl obg3)), (ob_4, .inl (k 3, 400, .inl obg4)), (ob_5, .inl (k 0, 1001, .inl obg5z)), (tn, .inr (10, [.int tnv0, .int tnv1, .int tnv2, .ref tn_3, .ref tn_4, .ref tn_5, .ref tn_6, .int tnv7, .int tnv8, .ref tn_9, .ref tn_10, .int tnv11, .ref tn_12, .ref tn_13, .ref tn_14, .ref tn_15, .int tnv16, .ref tn_17, .ref tn_18, .ref tnt]))] tZ) (va_A [(ob, .inr (2, [.int obv0, .ref obb, .ref ob_2, .ref ob_3, .ref ob_4, .ref ob_5])), (ob_2, .inl (k 0, 32, .inl obg2)), (ob_3, .inl (k 0, 32, .inl obg3)), (ob_4, .inl (k 3, 400, .inl obg4)), (ob_5, .inl (k 0, 1001, .inl obg5)), (tn, .inr (10, [.int tnv0, .int tnv1, .int tnv2, .ref tn_3, .ref tn_4, .ref tn_5, .ref tn_6, .int tnv7, .int tnv8, .ref tn_9, .ref tn_10, .int tnv11, .ref tn_12, .ref tn_13, .ref tn_14, .ref tn_15, .int tnv16, .ref tn_17, .ref tn_18, .ref tnt]))] sz)) 0 0 (va_A [(ob, .inr (2, [.int obv0, .ref obb, .ref ob_2, .ref ob_3, .ref ob_4, .ref ob_5])), (ob_2, .inl (k 0, 32, .inl obg2)), (ob_3, .inl (k 0, 32, .inl obg3)), (ob_4, .inl (k 3, 400, .inl obg4)), (ob_5, .inl (k 0, 1001, .inl obg5)), (tn, .inr (10, [.int tnv0, .int tnv1, .int tnv2, .ref tn_3, .ref tn_4, .ref tn_5, .ref tn_6, .int tnv7, .int tnv8, .ref tn_9, .ref tn_10, .int tnv11, .ref tn_12, .ref tn_13, .ref tn_14, .ref tn_15, .int tnv16, .ref tn_17, .ref tn_18, .ref tnt]))] sz) := by
  refine Met.ofW (cc := cX2_tellingStreet) (maxL := 6) (ret := (some .int)) (by decide +kernel) rfl ?_
  intro p e s m args below meth c s₁ B hml hv
  obtain ⟨rfl, hsz, hP, hK, hD0, hN⟩ := hv
  have hx := B.exec
  have hb := B.bytes
  have hr := B.returns
  have hts : ∀ w ∈ TT, w.before _ s = true := fun w h => atoms_spec (ws := ww yX2_tellingStreet cX2_tellingStreet 6 (some .int)) B.pre w (List.mem_cons_of_mem _ h)
  have hown : s.vm.findClass RX2 = some m.cls := findClass_of_methodNamed B.named
  have hlocks := B.notSynchronized
  subst hsz
  have hD := hD0.self (sz := s.heap.size)
  generalize hAe : va_A [(ob, .inr (2, [.int obv0, .ref obb, .ref ob_2, .ref ob_3, .ref ob_4, .ref ob_5])), (ob_2, .inl (k 0, 32, .inl obg2)), (ob_3, .inl (k 0, 32, .inl obg3)), (ob_4, .inl (k 3, 400, .inl obg4)), (ob_5, .inl (k 0, 1001, .inl obg5)), (tn, .inr (10, [.int tnv0, .int tnv1, .int tnv2, .ref tn_3, .ref tn_4, .ref tn_5, .ref tn_6, .int tnv7, .int tnv8, .ref tn_9, .ref tn_10, .int tnv11, .ref tn_12, .ref tn_13, .ref tn_14, .ref tn_15, .int tnv16, .ref tn_17, .ref tn_18, .ref tnt]))] s.heap.size = A at hD ⊢
  have hA : ∀ q : Nat, s.heap.size ≤ q → A q := fun q h => by rw [← hAe]; exact Or.inr h
  have hS : va_S A s.heap s.heap [] := va_S.rf
  have hl := lv_entry ([.ref ob, .ref tn]) (n := 6) (Nat.le_of_ble_eq_true rfl)
  rw [lg_entry_eq]
  generalize (lg_sl ([.ref ob, .ref tn]) ++ List.replicate (6 - (lg_sl ([.ref ob, .ref tn])).length) Slot.unset).toArray = ls at hl ⊢
  have hl : lv_has ls 6 [(0, .ref ob), (1, .ref tn)] := hl
  refine lv_iconst (v := (-1)) hx hb dX2_tellingStreet_0 (by decide) ?_
  refine lv_istore_n (lv' := [(2, .int (-1)), (0, .ref ob), (1, .ref tn)]) hx hb dX2_tellingStreet_1 rfl hl (by decide) rfl (fun ls hl => ?_)
  refine lv_aload_n hx hb dX2_tellingStreet_2 rfl (lv_at hl 1 rfl) ?_
  refine va_get (D := D) (ci := 2) (v := .int obv0) (C := RX2) (T := TX2) (N := 6) hx hb hts iT_X2 hown hK hP 0 rfl rfl 0 (by decide) (hts _ tw_2_96) (fun _ h9 => h9) rfl dX2_tellingStreet_3 ?_
  refine lv_istore_n (lv' := [(3, .int obv0), (2, .int (-1)), (0, .ref ob), (1, .ref tn)]) hx hb dX2_tellingStreet_6 rfl hl (by decide) rfl (fun ls hl => ?_)
  refine lv_iconst (v := 0) hx hb dX2_tellingStreet_7 (by decide) ?_
  refine lv_istore (lv' := [(4, .int 0), (3, .int obv0), (2, .int (-1)), (0, .ref ob), (1, .ref tn)]) hx hb dX2_tellingStreet_8 hl (by decide) rfl (fun ls hl => ?_)
  refine loop_r (Wg := fun H locs ls => W p l e _ s m _ below meth c H locs _ _ _ (F0 m 10 ls [])) (fun n9 H locs ls => ∃ (L10l2 : Int32) (L10l3 : Int32) (L10l4 : Int32) (L10a4 : Nat → Int32), n9 = (8 - L10l4.toInt).toNat ∧ ((-1) ≤ L10l2.toInt ∧ L10l2.toInt ≤ 7) ∧ (0 ≤ L10l4.toInt ∧ L10l4.toInt ≤ 8) ∧ va_P D vwCl [(ob, .inr (2, [.int obv0, .ref obb, .ref ob_2, .ref ob_3, .ref ob_4, .ref ob_5])), (ob_2, .inl (k 0, 32, .inl obg2)), (ob_3, .inl (k 0, 32, .inl obg3)), (ob_4, .inl (k 3, 400, .inl obg4)), (ob_5, .inl (k 0, 1001, .inl L10a4)), (tn, .inr (10, [.int tnv0, .int tnv1, .int tnv2, .ref tn_3, .ref tn_4, .ref tn_5, .ref tn_6, .int tnv7, .int tnv8, .ref tn_9, .ref tn_10, .int tnv11, .ref tn_12, .ref tn_13, .ref tn_14, .ref tn_15, .int tnv16, .ref tn_17, .ref tn_18, .ref tnt]))] H ∧ va_D A [(ob, .inr (2, [.int obv0, .ref obb, .ref ob_2, .ref ob_3, .ref ob_4, .ref ob_5])), (ob_2, .inl (k 0, 32, .inl obg2)), (ob_3, .inl (k 0, 32, .inl obg3)), (ob_4, .inl (k 3, 400, .inl obg4)), (ob_5, .inl (k 0, 1001, .inl L10a4)), (tn, .inr (10, [.int tnv0, .int tnv1, .int tnv2, .ref tn_3, .ref tn_4, .ref tn_5, .ref tn_6, .int tnv7, .int tnv8, .ref tn_9, .ref tn_10, .int tnv11, .ref tn_12, .ref tn_13, .ref tn_14, .ref tn_15, .int tnv16, .ref tn_17, .ref tn_18, .ref tnt]))] ∧ va_S A s.heap H locs ∧ lv_has ls 6 [(0, .ref ob), (1, .ref tn), (2, .int L10l2), (3, .int L10l3), (4, .int L10l4)]) (fun n9 H locs ls hI ih_1 => ?_) _ _ _ _ ⟨(-1), obv0, 0, obg5, rfl, (show (-1) ≤ (-1) ∧ (-1) ≤ 7 from by omega), (show 0 ≤ 0 ∧ 0 ≤ 8 from by omega), hP.sub (ws' := [(ob, .inr (2, [.int obv0, .ref obb, .ref ob_2, .ref ob_3, .ref ob_4, .ref ob_5])), (ob_2, .inl (k 0, 32, .inl obg2)), (ob_3, .inl (k 0, 32, .inl obg3)), (ob_4, .inl (k 3, 400, .inl obg4)), (ob_5, .inl (k 0, 1001, .inl obg5)), (tn, .inr (10, [.int tnv0, .int tnv1, .int tnv2, .ref tn_3, .ref tn_4, .ref tn_5, .ref tn_6, .int tnv7, .int tnv8, .ref tn_9, .ref tn_10, .int tnv11, .ref tn_12, .ref tn_13, .ref tn_14, .ref tn_15, .int tnv16, .ref tn_17, .ref tn_18, .ref tnt]))]) [0, 1, 2, 3, 4, 5] rfl, hD.sub (ws' := [(ob, .inr (2, [.int obv0, .ref obb, .ref ob_2, .ref ob_3, .ref ob_4, .ref ob_5])), (ob_2, .inl (k 0, 32, .inl obg2)), (ob_3, .inl (k 0, 32, .inl obg3)), (ob_4, .inl (k 3, 400, .inl obg4)), (ob_5, .inl (k 0, 1001, .inl obg5)), (tn, .inr (10, [.int tnv0, .int tnv1, .int tnv2, .ref tn_3, .ref tn_4, .ref tn_5, .ref tn_6, .int tnv7, .int tnv8, .ref tn_9, .ref tn_10, .int tnv11, .ref tn_12, .ref tn_13, .ref tn_14, .ref tn_15, .int tnv16, .ref tn_17, .ref tn_18, .ref tnt]))]) [0, 1, 2, 3, 4, 5] (by decide +kernel) rfl, hS, lv_sub hl [3, 4, 2, 1, 0] rfl⟩
  clear hP hD hS hl
  obtain ⟨L10l2, L10l3, L10l4, L10a4, en_2, zL10l2, zL10l4, hP, hD, hS, hl⟩ := hI
  refine lv_iload hx hb dX2_tellingStreet_10 (lv_at hl 4 rfl) ?_
  refine lv_aload_n hx hb dX2_tellingStreet_12 rfl (lv_at hl 1 rfl) ?_
  refine va_get (D := D) (ci := 10) (v := .int tnv0) (C := RX10) (T := TX10) (N := 20) hx hb hts iT_X10 hown hK hP 5 rfl rfl 0 (by decide) (hts _ tw_1_72) (fun _ h9 => h9) rfl dX2_tellingStreet_13 ?_
  refine lv_icmp_ge (tgt := 46) hx hb dX2_tellingStreet_16 (by decide) (fun h_3 => ?_) (fun h_3 => ?_)
  · skip
    have zh_3 : tnv0.toInt ≤ L10l4.toInt := z_le h_3
    refine lv_iload_n hx hb dX2_tellingStreet_46 rfl (lv_at hl 2 rfl) ?_
    obtain ⟨hP9, hD9⟩ := sub2 hP hD (ws' := [(ob, .inr (2, [.int obv0, .ref obb, .ref ob_2, .ref ob_3, .ref ob_4, .ref ob_5])), (ob_2, .inl (k 0, 32, .inl obg2)), (ob_3, .inl (k 0, 32, .inl obg3)), (ob_4, .inl (k 3, 400, .inl obg4)), (ob_5, .inl (k 0, 1001, .inl L10a4)), (tn, .inr (10, [.int tnv0, .int tnv1, .int tnv2, .ref tn_3, .ref tn_4, .ref tn_5, .ref tn_6, .int tnv7, .int tnv8, .ref tn_9, .ref tn_10, .int tnv11, .ref tn_12, .ref tn_13, .ref tn_14, .ref tn_15, .int tnv16, .ref tn_17, .ref tn_18, .ref tnt]))]) [0, 1, 2, 3, 4, 5] (by decide +kernel) rfl
    exact W.iret (v := L10l2) hx hb hr (fun tZ ht hW => ⟨⟨L10l2, L10a4, rfl, (show (-1) ≤ L10l2.toInt ∧ L10l2.toInt ≤ 7 from by omega), by rw [ht]; exact hP9, va_K.moved hW.alike hK, hD9⟩, hS.F ht⟩) hS.2.2 dX2_tellingStreet_47
  · skip
    have zh_3 : L10l4.toInt < tnv0.toInt := z_nle h_3
    refine lv_aload_n hx hb dX2_tellingStreet_19 rfl (lv_at hl 0 rfl) ?_
    refine lv_aload_n hx hb dX2_tellingStreet_20 rfl (lv_at hl 1 rfl) ?_
    refine lv_iload hx hb dX2_tellingStreet_21 (lv_at hl 4 rfl) ?_
    obtain ⟨hPc, hDc, hFc⟩ := sub3 hP hD hS hA (ws' := [(ob, .inr (2, [.int obv0, .ref obb, .ref ob_2, .ref ob_3, .ref ob_4, .ref ob_5])), (ob_2, .inl (k 0, 32, .inl obg2)), (ob_3, .inl (k 0, 32, .inl obg3)), (ob_4, .inl (k 3, 400, .inl obg4)), (ob_5, .inl (k 0, 1001, .inl L10a4)), (tn, .inr (10, [.int tnv0, .int tnv1, .int tnv2, .ref tn_3, .ref tn_4, .ref tn_5, .ref tn_6, .int tnv7, .int tnv8, .ref tn_9, .ref tn_10, .int tnv11, .ref tn_12, .ref tn_13, .ref tn_14, .ref tn_15, .int tnv16, .ref tn_17, .ref tn_18, .ref tnt]))]) [0, 1, 2, 3, 4, 5] (by decide +kernel) rfl
    refine va_calli (va_runV (C := RX2) (As := [.ref tn, .int L10l4]) (rest := []) ⟨hx, hb, hml, hown, hts⟩ (c_X2_leftAtWorst l D k ob tn L10l4 obv0 obb ob_2 ob_3 ob_4 ob_5 obg2 obg3 obg4 L10a4 tnv0 tnv1 tnv2 tn_3 tn_4 tn_5 tn_6 tnv7 tnv8 tn_9 tn_10 tnv11 tn_12 tn_13 tn_14 tn_15 tnv16 tn_17 tn_18 tnt H.size (show 0 ≤ L10l4.toInt ∧ L10l4.toInt ≤ 7 from by omega) hp_obg2_0 hp_obg3_0 (show 0 ≤ tnv0.toInt ∧ tnv0.toInt ≤ 8 from by omega) (show 0 ≤ tnv2.toInt ∧ tnv2.toInt ≤ 10 from by omega) (show 0 ≤ tnv8.toInt ∧ tnv8.toInt ≤ 4 from by omega) (show 0 ≤ tnv11.toInt ∧ tnv11.toInt ≤ 6 from by omega) (show 0 ≤ tnv16.toInt ∧ tnv16.toInt ≤ 2 from by omega)) (cwV 2 hts (gV tw_5_26 tw_5_27 tw_5_28 tw_1_9 tw_5_29) rfl rfl rfl hdV_X2_leftAtWorst ⟨Nat.le_of_ble_eq_true rfl, Nat.le_of_ble_eq_true rfl⟩) (cz_V hK hPc hDc hN (ci := 2) (q0 := 0) rfl rfl [.ref tn, .int L10l4]) rfl rfl hl.1 rfl (lv_room (Nat.le_of_ble_eq_true rfl)) dX2_tellingStreet_23 ⟨Nat.le_of_ble_eq_true rfl, Nat.le_of_ble_eq_true rfl⟩) hS (fun q _ h => hFc q h) hFc (fun r_4 uZ tZ H1 locs ht hvm hw hB hz1 hk1 hS => ?_)
    obtain ⟨o_5, rfl⟩ : ∃ z, z = uZ := ⟨_, rfl⟩
    obtain ⟨hP1, hK1, hD1⟩ := hB
    rw [ht] at hP1
    obtain ⟨hP, hD⟩ := va_join (wr := []) (w1 := [(ob, .inr (2, [.int obv0, .ref obb, .ref ob_2, .ref ob_3, .ref ob_4, .ref ob_5])), (ob_2, .inl (k 0, 32, .inl obg2)), (ob_3, .inl (k 0, 32, .inl obg3)), (ob_4, .inl (k 3, 400, .inl obg4)), (ob_5, .inl (k 0, 1001, .inl o_5)), (tn, .inr (10, [.int tnv0, .int tnv1, .int tnv2, .ref tn_3, .ref tn_4, .ref tn_5, .ref tn_6, .int tnv7, .int tnv8, .ref tn_9, .ref tn_10, .int tnv11, .ref tn_12, .ref tn_13, .ref tn_14, .ref tn_15, .int tnv16, .ref tn_17, .ref tn_18, .ref tnt]))]) hP hD [0, 1, 2, 3, 4, 5] [] rfl rfl (by decide +kernel) (by decide +kernel) hk1 hFc hP1 hD1
    clear hK1 hP1 hD1 hPc hDc hFc
    clear hk1 hz1 ht hvm
    have hP : va_P D vwCl [(ob, .inr (2, [.int obv0, .ref obb, .ref ob_2, .ref ob_3, .ref ob_4, .ref ob_5])), (ob_2, .inl (k 0, 32, .inl obg2)), (ob_3, .inl (k 0, 32, .inl obg3)), (ob_4, .inl (k 3, 400, .inl obg4)), (ob_5, .inl (k 0, 1001, .inl o_5)), (tn, .inr (10, [.int tnv0, .int tnv1, .int tnv2, .ref tn_3, .ref tn_4, .ref tn_5, .ref tn_6, .int tnv7, .int tnv8, .ref tn_9, .ref tn_10, .int tnv11, .ref tn_12, .ref tn_13, .ref tn_14, .ref tn_15, .int tnv16, .ref tn_17, .ref tn_18, .ref tnt]))] H1 := hP
    have hD : va_D A [(ob, .inr (2, [.int obv0, .ref obb, .ref ob_2, .ref ob_3, .ref ob_4, .ref ob_5])), (ob_2, .inl (k 0, 32, .inl obg2)), (ob_3, .inl (k 0, 32, .inl obg3)), (ob_4, .inl (k 3, 400, .inl obg4)), (ob_5, .inl (k 0, 1001, .inl o_5)), (tn, .inr (10, [.int tnv0, .int tnv1, .int tnv2, .ref tn_3, .ref tn_4, .ref tn_5, .ref tn_6, .int tnv7, .int tnv8, .ref tn_9, .ref tn_10, .int tnv11, .ref tn_12, .ref tn_13, .ref tn_14, .ref tn_15, .int tnv16, .ref tn_17, .ref tn_18, .ref tnt]))] := hD
    generalize H1 = H at hP hS ⊢
    have hw_6 : (0 ≤ r_4.toInt ∧ r_4.toInt ≤ 2147483647) := hw
    have hw_7 := hw_6
    clear hw
    refine lv_istore (lv' := [(5, .int r_4), (0, .ref ob), (1, .ref tn), (2, .int L10l2), (3, .int L10l3), (4, .int L10l4)]) hx hb dX2_tellingStreet_26 hl (by decide) rfl (fun ls hl => ?_)
    refine lv_iload hx hb dX2_tellingStreet_28 (lv_at hl 0 rfl) ?_
    refine lv_iload_n hx hb dX2_tellingStreet_30 rfl (lv_at hl 4 rfl) ?_
    refine lv_icmp_ge (tgt := 40) hx hb dX2_tellingStreet_31 (by decide) (fun h_8 => ?_) (fun h_8 => ?_)
    · skip
      have zh_8 : L10l3.toInt ≤ r_4.toInt := z_le h_8
      obtain ⟨x_9, ex_9⟩ : ∃ y : Int32, y = L10l4 + 1 := ⟨_, rfl⟩
      have zx_9 : x_9.toInt = L10l4.toInt + 1 := by rw [ex_9]; exact z_add rfl rfl (by omega) (by omega)
      refine lv_iinc (v := x_9) (lv' := [(4, .int x_9), (5, .int r_4), (0, .ref ob), (1, .ref tn), (2, .int L10l2), (3, .int L10l3)]) hx hb dX2_tellingStreet_40 hl (k := 5) rfl (by rw [ex_9]; rfl) (by decide) rfl (fun ls hl => ?_)
      refine lv_goto (tgt := 10) hx hb dX2_tellingStreet_43 (by decide) ?_
      exact ih_1 _ _ _ _ (by omega) ⟨L10l2, L10l3, x_9, o_5, rfl, (show (-1) ≤ L10l2.toInt ∧ L10l2.toInt ≤ 7 from by omega), (show 0 ≤ x_9.toInt ∧ x_9.toInt ≤ 8 from by omega), hP.sub (ws' := [(ob, .inr (2, [.int obv0, .ref obb, .ref ob_2, .ref ob_3, .ref ob_4, .ref ob_5])), (ob_2, .inl (k 0, 32, .inl obg2)), (ob_3, .inl (k 0, 32, .inl obg3)), (ob_4, .inl (k 3, 400, .inl obg4)), (ob_5, .inl (k 0, 1001, .inl o_5)), (tn, .inr (10, [.int tnv0, .int tnv1, .int tnv2, .ref tn_3, .ref tn_4, .ref tn_5, .ref tn_6, .int tnv7, .int tnv8, .ref tn_9, .ref tn_10, .int tnv11, .ref tn_12, .ref tn_13, .ref tn_14, .ref tn_15, .int tnv16, .ref tn_17, .ref tn_18, .ref tnt]))]) [0, 1, 2, 3, 4, 5] rfl, hD.sub (ws' := [(ob, .inr (2, [.int obv0, .ref obb, .ref ob_2, .ref ob_3, .ref ob_4, .ref ob_5])), (ob_2, .inl (k 0, 32, .inl obg2)), (ob_3, .inl (k 0, 32, .inl obg3)), (ob_4, .inl (k 3, 400, .inl obg4)), (ob_5, .inl (k 0, 1001, .inl o_5)), (tn, .inr (10, [.int tnv0, .int tnv1, .int tnv2, .ref tn_3, .ref tn_4, .ref tn_5, .ref tn_6, .int tnv7, .int tnv8, .ref tn_9, .ref tn_10, .int tnv11, .ref tn_12, .ref tn_13, .ref tn_14, .ref tn_15, .int tnv16, .ref tn_17, .ref tn_18, .ref tnt]))]) [0, 1, 2, 3, 4, 5] (by decide +kernel) rfl, hS, lv_sub hl [2, 3, 4, 5, 0] rfl⟩
    · skip
      have zh_8 : r_4.toInt < L10l3.toInt := z_nle h_8
      refine lv_iload hx hb dX2_tellingStreet_34 (lv_at hl 0 rfl) ?_
      refine lv_istore_n (lv' := [(3, .int r_4), (5, .int r_4), (0, .ref ob), (1, .ref tn), (2, .int L10l2), (4, .int L10l4)]) hx hb dX2_tellingStreet_36 rfl hl (by decide) rfl (fun ls hl => ?_)
      refine lv_iload hx hb dX2_tellingStreet_37 (lv_at hl 5 rfl) ?_
      refine lv_istore_n (lv' := [(2, .int L10l4), (3, .int r_4), (5, .int r_4), (0, .ref ob), (1, .ref tn), (4, .int L10l4)]) hx hb dX2_tellingStreet_39 rfl hl (by decide) rfl (fun ls hl => ?_)
      obtain ⟨x_10, ex_10⟩ : ∃ y : Int32, y = L10l4 + 1 := ⟨_, rfl⟩
      have zx_10 : x_10.toInt = L10l4.toInt + 1 := by rw [ex_10]; exact z_add rfl rfl (by omega) (by omega)
      refine lv_iinc (v := x_10) (lv' := [(4, .int x_10), (2, .int L10l4), (3, .int r_4), (5, .int r_4), (0, .ref ob), (1, .ref tn)]) hx hb dX2_tellingStreet_40 hl (k := 5) rfl (by rw [ex_10]; rfl) (by decide) rfl (fun ls hl => ?_)
      refine lv_goto (tgt := 10) hx hb dX2_tellingStreet_43 (by decide) ?_
      exact ih_1 _ _ _ _ (by omega) ⟨L10l4, r_4, x_10, o_5, rfl, (show (-1) ≤ L10l4.toInt ∧ L10l4.toInt ≤ 7 from by omega), (show 0 ≤ x_10.toInt ∧ x_10.toInt ≤ 8 from by omega), hP.sub (ws' := [(ob, .inr (2, [.int obv0, .ref obb, .ref ob_2, .ref ob_3, .ref ob_4, .ref ob_5])), (ob_2, .inl (k 0, 32, .inl obg2)), (ob_3, .inl (k 0, 32, .inl obg3)), (ob_4, .inl (k 3, 400, .inl obg4)), (ob_5, .inl (k 0, 1001, .inl o_5)), (tn, .inr (10, [.int tnv0, .int tnv1, .int tnv2, .ref tn_3, .ref tn_4, .ref tn_5, .ref tn_6, .int tnv7, .int tnv8, .ref tn_9, .ref tn_10, .int tnv11, .ref tn_12, .ref tn_13, .ref tn_14, .ref tn_15, .int tnv16, .ref tn_17, .ref tn_18, .ref tnt]))]) [0, 1, 2, 3, 4, 5] rfl, hD.sub (ws' := [(ob, .inr (2, [.int obv0, .ref obb, .ref ob_2, .ref ob_3, .ref ob_4, .ref ob_5])), (ob_2, .inl (k 0, 32, .inl obg2)), (ob_3, .inl (k 0, 32, .inl obg3)), (ob_4, .inl (k 3, 400, .inl obg4)), (ob_5, .inl (k 0, 1001, .inl o_5)), (tn, .inr (10, [.int tnv0, .int tnv1, .int tnv2, .ref tn_3, .ref tn_4, .ref tn_5, .ref tn_6, .int tnv7, .int tnv8, .ref tn_9, .ref tn_10, .int tnv11, .ref tn_12, .ref tn_13, .ref tn_14, .ref tn_15, .int tnv16, .ref tn_17, .ref tn_18, .ref tnt]))]) [0, 1, 2, 3, 4, 5] (by decide +kernel) rfl, hS, lv_sub hl [4, 5, 1, 2, 0] rfl⟩
set_option maxHeartbeats 4000000 in
set_option maxRecDepth 100000 in
theorem c_X3_evening (l : Launch) (D : va_G) (k : Nat → ClassId) (tn : Nat) (p1 : Int64) (tnv0 : Int32) (tnv1 : Int32) (tnv2 : Int32) (tn_3 : Nat) (tn_4 : Nat) (tn_5 : Nat) (tn_6 : Nat) (tnv7 : Int32) (tnv8 : Int32) (tn_9 : Nat) (tn_10 : Nat) (tnv11 : Int32) (tn_12 : Nat) (tn_13 : Nat) (tn_14 : Nat) (tn_15 : Nat) (tnv16 : Int32) (tn_17 : Nat) (tn_18 : Nat) (tnt : Nat) (tng6 : Nat → Int32) (sz : Nat) (h_tnv0 : 0 ≤ tnv0.toInt ∧ tnv0.toInt ≤ 8) (h_tnv2 : 0 ≤ tnv2.toInt ∧ tnv2.toInt ≤ 10) (h_tnv8 : 0 ≤ tnv8.toInt ∧ tnv8.toInt ≤ 4) (h_tnv11 : 0 ≤ tnv11.toInt ∧ tnv11.toInt ≤ 6) (h_tnv16 : 0 ≤ tnv16.toInt ∧ tnv16.toInt ≤ 2) (hp_tng6_0 : PR 10 1 0 0 10 tng6) : Met l yX3_evening (ww yX3_evening cX3_evening 7 (some .int)) ({ frames := 0, cells := 0, slots := 0, locals := 0 }) (Pre0 D k [(tn, .inr (10, [.int tnv0, .int tnv1, .int tnv2, .ref tn_3, .ref tn_4, .ref tn_5, .ref tn_6, .int tnv7, .int tnv8, .ref tn_9, .ref tn_10, .int tnv11, .ref tn_12, .ref tn_13, .ref tn_14, .ref tn_15, .int tnv16, .ref tn_17, .ref tn_18, .ref tnt])), (tn_6, .inl (k 0, 10, .inl tng6))] sz [.ref tn, .long p1]) (va_Qi (fun (r : Int32) (_ : Unit) => (0 ≤ r.toInt ∧ r.toInt ≤ 1023)) (fun (_ : Unit) tZ => Bw D k (va_A [(tn, .inr (10, [.int tnv0, .int tnv1, .int tnv2, .ref tn_3, .ref tn_4, .ref tn_5, .ref tn_6, .int tnv7, .int tnv8, .ref tn_9, .ref tn_10, .int tnv11, .ref tn_12, .ref tn_13, .ref tn_14, .ref tn_15, .int tnv16, .ref tn_17, .ref tn_18, .ref tnt])), (tn_6, .inl (k 0, 10, .inl tng6))] sz) [(tn, .inr (10, [.int tnv0, .int tnv1, .int tnv2, .ref tn_3, .ref tn_4, .ref tn_5, .ref tn_6, .int tnv7, .int tnv8, .ref tn_9, .ref tn_10, .int tnv11, .ref tn_12, .ref tn_13, .ref tn_14, .ref tn_15, .int tnv16, .ref tn_17, .ref tn_18, .ref tnt])), (tn_6, .inl (k 0, 10, .inl tng6))] tZ) (va_A [(tn, .inr (10, [.int tnv0, .int tnv1, .int tnv2, .ref tn_3, .ref tn_4, .ref tn_5, .ref tn_6, .int tnv7, .int tnv8, .ref tn_9, .ref tn_10, .int tnv11, .ref tn_12, .ref tn_13, .ref tn_14, .ref tn_15, .int tnv16, .ref tn_17, .ref tn_18, .ref tnt])), (tn_6, .inl (k 0, 10, .inl tng6))] sz)) 0 0 (va_A [(tn, .inr (10, [.int tnv0, .int tnv1, .int tnv2, .ref tn_3, .ref tn_4, .ref tn_5, .ref tn_6, .int tnv7, .int tnv8, .ref tn_9, .ref tn_10, .int tnv11, .ref tn_12, .ref tn_13, .ref tn_14, .ref tn_15, .int tnv16, .ref tn_17, .ref tn_18, .ref tnt])), (tn_6, .inl (k 0, 10, .inl tng6))] sz) := by
  refine Met.ofW (cc := cX3_evening) (maxL := 7) (ret := (some .int)) (by decide +kernel) rfl ?_
  intro p e s m args below meth c s₁ B hml hv
  obtain ⟨rfl, hsz, hP, hK, hD0, hN⟩ := hv
  have hx := B.exec
  have hb := B.bytes
  have hr := B.returns
  have hts : ∀ w ∈ TT, w.before _ s = true := fun w h => atoms_spec (ws := ww yX3_evening cX3_evening 7 (some .int)) B.pre w (List.mem_cons_of_mem _ h)
  have hown : s.vm.findClass RX3 = some m.cls := findClass_of_methodNamed B.named
  have hlocks := B.notSynchronized
  subst hsz
  have hD := hD0.self (sz := s.heap.size)
  generalize hAe : va_A [(tn, .inr (10, [.int tnv0, .int tnv1, .int tnv2, .ref tn_3, .ref tn_4, .ref tn_5, .ref tn_6, .int tnv7, .int tnv8, .ref tn_9, .ref tn_10, .int tnv11, .ref tn_12, .ref tn_13, .ref tn_14, .ref tn_15, .int tnv16, .ref tn_17, .ref tn_18, .ref tnt])), (tn_6, .inl (k 0, 10, .inl tng6))] s.heap.size = A at hD ⊢
  have hA : ∀ q : Nat, s.heap.size ≤ q → A q := fun q h => by rw [← hAe]; exact Or.inr h
  have hS : va_S A s.heap s.heap [] := va_S.rf
  have hl := lv_entry ([.ref tn, .long p1]) (n := 7) (Nat.le_of_ble_eq_true rfl)
  rw [lg_entry_eq]
  generalize (lg_sl ([.ref tn, .long p1]) ++ List.replicate (7 - (lg_sl ([.ref tn, .long p1])).length) Slot.unset).toArray = ls at hl ⊢
  have hl : lv_has ls 7 [(0, .ref tn), (1, .long p1)] := hl
  refine lv_iconst (v := 0) hx hb dX3_evening_0 (by decide) ?_
  refine lv_istore_n (lv' := [(3, .int 0), (0, .ref tn), (1, .long p1)]) hx hb dX3_evening_1 rfl hl (by decide) rfl (fun ls hl => ?_)
  refine lv_lload_n hx hb dX3_evening_2 rfl (lv_at hl 2 rfl) ?_
  refine lv_lstore (lv' := [(4, .long p1), (3, .int 0), (0, .ref tn), (1, .long p1)]) hx hb dX3_evening_3 hl (by decide) rfl (fun ls hl => ?_)
  refine lv_iconst (v := 0) hx hb dX3_evening_5 (by decide) ?_
  refine lv_istore (lv' := [(6, .int 0), (4, .long p1), (3, .int 0), (0, .ref tn), (1, .long p1)]) hx hb dX3_evening_6 hl (by decide) rfl (fun ls hl => ?_)
  refine loop_r (Wg := fun H locs ls => W p l e _ s m _ below meth c H locs _ _ _ (F0 m 8 ls [])) (fun n9 H locs ls => ∃ (L8l3 : Int32) (L8l4 : Int64) (L8l6 : Int32), n9 = (10 - L8l6.toInt).toNat ∧ (0 ≤ L8l3.toInt ∧ L8l3.toInt ≤ 1023) ∧ (0 ≤ L8l6.toInt ∧ L8l6.toInt ≤ 10) ∧ va_P D vwCl [(tn, .inr (10, [.int tnv0, .int tnv1, .int tnv2, .ref tn_3, .ref tn_4, .ref tn_5, .ref tn_6, .int tnv7, .int tnv8, .ref tn_9, .ref tn_10, .int tnv11, .ref tn_12, .ref tn_13, .ref tn_14, .ref tn_15, .int tnv16, .ref tn_17, .ref tn_18, .ref tnt])), (tn_6, .inl (k 0, 10, .inl tng6))] H ∧ va_D A [(tn, .inr (10, [.int tnv0, .int tnv1, .int tnv2, .ref tn_3, .ref tn_4, .ref tn_5, .ref tn_6, .int tnv7, .int tnv8, .ref tn_9, .ref tn_10, .int tnv11, .ref tn_12, .ref tn_13, .ref tn_14, .ref tn_15, .int tnv16, .ref tn_17, .ref tn_18, .ref tnt])), (tn_6, .inl (k 0, 10, .inl tng6))] ∧ va_S A s.heap H locs ∧ lv_has ls 7 [(0, .ref tn), (1, .long p1), (3, .int L8l3), (4, .long L8l4), (6, .int L8l6)]) (fun n9 H locs ls hI ih_1 => ?_) _ _ _ _ ⟨0, p1, 0, rfl, (show 0 ≤ 0 ∧ 0 ≤ 1023 from by omega), (show 0 ≤ 0 ∧ 0 ≤ 10 from by omega), hP.sub (ws' := [(tn, .inr (10, [.int tnv0, .int tnv1, .int tnv2, .ref tn_3, .ref tn_4, .ref tn_5, .ref tn_6, .int tnv7, .int tnv8, .ref tn_9, .ref tn_10, .int tnv11, .ref tn_12, .ref tn_13, .ref tn_14, .ref tn_15, .int tnv16, .ref tn_17, .ref tn_18, .ref tnt])), (tn_6, .inl (k 0, 10, .inl tng6))]) [0, 1] rfl, hD.sub (ws' := [(tn, .inr (10, [.int tnv0, .int tnv1, .int tnv2, .ref tn_3, .ref tn_4, .ref tn_5, .ref tn_6, .int tnv7, .int tnv8, .ref tn_9, .ref tn_10, .int tnv11, .ref tn_12, .ref tn_13, .ref tn_14, .ref tn_15, .int tnv16, .ref tn_17, .ref tn_18, .ref tnt])), (tn_6, .inl (k 0, 10, .inl tng6))]) [0, 1] (by decide +kernel) rfl, hS, lv_sub hl [3, 4, 2, 1, 0] rfl⟩
  clear hP hD hS hl
  obtain ⟨L8l3, L8l4, L8l6, en_2, zL8l3, zL8l6, hP, hD, hS, hl⟩ := hI
  refine lv_iload hx hb dX3_evening_8 (lv_at hl 4 rfl) ?_
  refine lv_aload_n hx hb dX3_evening_10 rfl (lv_at hl 0 rfl) ?_
  refine va_get (D := D) (ci := 10) (v := .int tnv2) (C := RX10) (T := TX10) (N := 20) hx hb hts iT_X10 hown hK hP 0 rfl rfl 2 (by decide) (hts _ tw_1_78) (fun _ h9 => h9) rfl dX3_evening_11 ?_
  refine lv_icmp_ge (tgt := 68) hx hb dX3_evening_14 (by decide) (fun h_3 => ?_) (fun h_3 => ?_)
  · skip
    have zh_3 : tnv2.toInt ≤ L8l6.toInt := z_le h_3
    refine lv_iload_n hx hb dX3_evening_68 rfl (lv_at hl 2 rfl) ?_
    obtain ⟨hP9, hD9⟩ := sub2 hP hD (ws' := [(tn, .inr (10, [.int tnv0, .int tnv1, .int tnv2, .ref tn_3, .ref tn_4, .ref tn_5, .ref tn_6, .int tnv7, .int tnv8, .ref tn_9, .ref tn_10, .int tnv11, .ref tn_12, .ref tn_13, .ref tn_14, .ref tn_15, .int tnv16, .ref tn_17, .ref tn_18, .ref tnt])), (tn_6, .inl (k 0, 10, .inl tng6))]) [0, 1] (by decide +kernel) rfl
    exact W.iret (v := L8l3) hx hb hr (fun tZ ht hW => ⟨⟨L8l3, (), rfl, (show 0 ≤ L8l3.toInt ∧ L8l3.toInt ≤ 1023 from by omega), by rw [ht]; exact hP9, va_K.moved hW.alike hK, hD9⟩, hS.F ht⟩) hS.2.2 dX3_evening_69
  · skip
    have zh_3 : L8l6.toInt < tnv2.toInt := z_nle h_3
    refine lv_ldc2 (v := 1103515245) hx hb hown (hts _ tw_5_213) dX3_evening_17 ?_
    refine lv_lload hx hb dX3_evening_20 (lv_at hl 3 rfl) ?_
    refine lv_lmul hx hb dX3_evening_22 ?_
    refine lv_topl (fun x_4 ex_4 => ?_)
    refine lv_ldc2 (v := 12345) hx hb hown (hts _ tw_5_214) dX3_evening_23 ?_
    refine lv_ladd hx hb dX3_evening_26 ?_
    refine lv_topl (fun x_5 ex_5 => ?_)
    refine lv_ldc2 (v := 2147483648) hx hb hown (hts _ tw_5_215) dX3_evening_27 ?_
    refine lv_lrem hx hb dX3_evening_30 (by decide) ?_
    refine lv_topl (fun x_6 ex_6 => ?_)
    refine lv_lstore (lv' := [(4, .long x_6), (0, .ref tn), (1, .long p1), (3, .int L8l3), (6, .int L8l6)]) hx hb dX3_evening_31 hl (by decide) rfl (fun ls hl => ?_)
    refine lv_lload hx hb dX3_evening_33 (lv_at hl 0 rfl) ?_
    refine lv_ldc2 (v := 65536) hx hb hown (hts _ tw_5_216) dX3_evening_35 ?_
    refine lv_ldiv hx hb dX3_evening_38 (by decide) ?_
    refine lv_topl (fun x_7 ex_7 => ?_)
    refine lv_ldc2 (v := 10) hx hb hown (hts _ tw_5_159) dX3_evening_39 ?_
    refine lv_lrem hx hb dX3_evening_42 (by decide) ?_
    refine lv_topl (fun x_8 ex_8 => ?_)
    refine lv_aload_n hx hb dX3_evening_43 rfl (lv_at hl 1 rfl) ?_
    refine va_get (D := D) (ci := 10) (v := .ref tn_6) (C := RX10) (T := TX10) (N := 20) hx hb hts iT_X10 hown hK hP 0 rfl rfl 6 (by decide) (hts _ tw_1_98) (fun _ h9 => h9) rfl dX3_evening_44 ?_
    refine lv_iload hx hb dX3_evening_47 (lv_at hl 4 rfl) ?_
    refine va_iald hx hb hK hP 1 0 rfl rfl (z_in (by omega) (by omega)) dX3_evening_49 ?_
    refine lv_topi (fun x_9 ex_9 => ?_)
    have zx_9r0 : 0 ≤ x_9.toInt ∧ x_9.toInt ≤ 10 := by rw [ex_9]; exact PR.ld hp_tng6_0 (by omega) (by omega) (by omega)
    refine lv_i2l (v := x_9.toInt64) hx hb dX3_evening_50 rfl ?_
    refine W.lcmp hx hb dX3_evening_51 ?_
    refine lv_if_ge (tgt := 62) hx hb dX3_evening_52 (by decide) (fun h_10 => ?_) (fun h_10 => ?_)
    · skip
      have zh_10 : x_9.toInt ≤ x_8.toInt := zL_ge h_10 rfl (Int32.toInt_toInt64 _)
      obtain ⟨x_11, ex_11⟩ : ∃ y : Int32, y = L8l6 + 1 := ⟨_, rfl⟩
      have zx_11 : x_11.toInt = L8l6.toInt + 1 := by rw [ex_11]; exact z_add rfl rfl (by omega) (by omega)
      refine lv_iinc (v := x_11) (lv' := [(6, .int x_11), (4, .long x_6), (0, .ref tn), (1, .long p1), (3, .int L8l3)]) hx hb dX3_evening_62 hl (k := 4) rfl (by rw [ex_11]; rfl) (by decide) rfl (fun ls hl => ?_)
      refine lv_goto (tgt := 8) hx hb dX3_evening_65 (by decide) ?_
      exact ih_1 _ _ _ _ (by omega) ⟨L8l3, x_6, x_11, rfl, (show 0 ≤ L8l3.toInt ∧ L8l3.toInt ≤ 1023 from by omega), (show 0 ≤ x_11.toInt ∧ x_11.toInt ≤ 10 from by omega), hP.sub (ws' := [(tn, .inr (10, [.int tnv0, .int tnv1, .int tnv2, .ref tn_3, .ref tn_4, .ref tn_5, .ref tn_6, .int tnv7, .int tnv8, .ref tn_9, .ref tn_10, .int tnv11, .ref tn_12, .ref tn_13, .ref tn_14, .ref tn_15, .int tnv16, .ref tn_17, .ref tn_18, .ref tnt])), (tn_6, .inl (k 0, 10, .inl tng6))]) [0, 1] rfl, hD.sub (ws' := [(tn, .inr (10, [.int tnv0, .int tnv1, .int tnv2, .ref tn_3, .ref tn_4, .ref tn_5, .ref tn_6, .int tnv7, .int tnv8, .ref tn_9, .ref tn_10, .int tnv11, .ref tn_12, .ref tn_13, .ref tn_14, .ref tn_15, .int tnv16, .ref tn_17, .ref tn_18, .ref tnt])), (tn_6, .inl (k 0, 10, .inl tng6))]) [0, 1] (by decide +kernel) rfl, hS, lv_sub hl [2, 3, 4, 1, 0] rfl⟩
    · skip
      have zh_10 : x_8.toInt < x_9.toInt := zL_nge h_10 rfl (Int32.toInt_toInt64 _)
      refine lv_iload_n hx hb dX3_evening_55 rfl (lv_at hl 3 rfl) ?_
      refine lv_iconst (v := 1) hx hb dX3_evening_56 (by decide) ?_
      refine lv_iload hx hb dX3_evening_57 (lv_at hl 4 rfl) ?_
      refine lv_ishl hx hb dX3_evening_59 ?_
      refine lv_topi (fun x_12 ex_12 => ?_)
      have zx_12 : 1 ≤ x_12.toInt ∧ x_12.toInt ≤ 512 := by rw [ex_12]; exact z_shl1 9 512 rfl (by decide) (by omega) (by omega)
      refine lv_ior hx hb dX3_evening_60 ?_
      refine lv_topi (fun x_13 ex_13 => ?_)
      have zx_13 : 0 ≤ x_13.toInt ∧ x_13.toInt < 1024 := by rw [ex_13]; exact z_or 10 1024 rfl (by decide) ⟨by omega, by omega⟩ ⟨by omega, by omega⟩
      refine lv_istore_n (lv' := [(3, .int x_13), (4, .long x_6), (0, .ref tn), (1, .long p1), (6, .int L8l6)]) hx hb dX3_evening_61 rfl hl (by decide) rfl (fun ls hl => ?_)
      obtain ⟨x_14, ex_14⟩ : ∃ y : Int32, y = L8l6 + 1 := ⟨_, rfl⟩
      have zx_14 : x_14.toInt = L8l6.toInt + 1 := by rw [ex_14]; exact z_add rfl rfl (by omega) (by omega)
      refine lv_iinc (v := x_14) (lv' := [(6, .int x_14), (3, .int x_13), (4, .long x_6), (0, .ref tn), (1, .long p1)]) hx hb dX3_evening_62 hl (k := 4) rfl (by rw [ex_14]; rfl) (by decide) rfl (fun ls hl => ?_)
      refine lv_goto (tgt := 8) hx hb dX3_evening_65 (by decide) ?_
      exact ih_1 _ _ _ _ (by omega) ⟨x_13, x_6, x_14, rfl, (show 0 ≤ x_13.toInt ∧ x_13.toInt ≤ 1023 from by omega), (show 0 ≤ x_14.toInt ∧ x_14.toInt ≤ 10 from by omega), hP.sub (ws' := [(tn, .inr (10, [.int tnv0, .int tnv1, .int tnv2, .ref tn_3, .ref tn_4, .ref tn_5, .ref tn_6, .int tnv7, .int tnv8, .ref tn_9, .ref tn_10, .int tnv11, .ref tn_12, .ref tn_13, .ref tn_14, .ref tn_15, .int tnv16, .ref tn_17, .ref tn_18, .ref tnt])), (tn_6, .inl (k 0, 10, .inl tng6))]) [0, 1] rfl, hD.sub (ws' := [(tn, .inr (10, [.int tnv0, .int tnv1, .int tnv2, .ref tn_3, .ref tn_4, .ref tn_5, .ref tn_6, .int tnv7, .int tnv8, .ref tn_9, .ref tn_10, .int tnv11, .ref tn_12, .ref tn_13, .ref tn_14, .ref tn_15, .int tnv16, .ref tn_17, .ref tn_18, .ref tnt])), (tn_6, .inl (k 0, 10, .inl tng6))]) [0, 1] (by decide +kernel) rfl, hS, lv_sub hl [3, 4, 1, 2, 0] rfl⟩
set_option maxHeartbeats 4000000 in
set_option maxRecDepth 100000 in
theorem c_J7_fill_d0a16_0 (l : Launch) (D : va_G) (k : Nat → ClassId) (p0 : Nat) (f0 : Nat → Int64) (sz : Nat) : Met l yJ7_fill_d0a16 (ww yJ7_fill_d0a16 cJ7_fill_d0a16 5 none) ({ frames := 0, cells := 0, slots := 0, locals := 0 }) (Pre0 D k [(p0, .inl (k 2, 1000, .inr (.inl f0)))] sz [.ref p0, .long 0]) (va_Qv (fun (f0z : (Nat → Int64)) => True) (fun (f0z : (Nat → Int64)) tZ => Bw D k (va_A [(p0, .inl (k 2, 1000, .inr (.inl f0)))] sz) [(p0, .inl (k 2, 1000, .inr (.inl f0z)))] tZ) (va_A [(p0, .inl (k 2, 1000, .inr (.inl f0)))] sz)) 0 0 (va_A [(p0, .inl (k 2, 1000, .inr (.inl f0)))] sz) := by
  refine Met.ofW (cc := cJ7_fill_d0a16) (maxL := 5) (ret := none) (by decide +kernel) rfl ?_
  intro p e s m args below meth c s₁ B hml hv
  obtain ⟨rfl, hsz, hP, hK, hD0, hN⟩ := hv
  have hx := B.exec
  have hb := B.bytes
  have hr := B.returns
  have hts : ∀ w ∈ TT, w.before _ s = true := fun w h => atoms_spec (ws := ww yJ7_fill_d0a16 cJ7_fill_d0a16 5 none) B.pre w (List.mem_cons_of_mem _ h)
  have hown : s.vm.findClass RJ7 = some m.cls := findClass_of_methodNamed B.named
  have hlocks := B.notSynchronized
  subst hsz
  have hD := hD0.self (sz := s.heap.size)
  generalize hAe : va_A [(p0, .inl (k 2, 1000, .inr (.inl f0)))] s.heap.size = A at hD ⊢
  have hA : ∀ q : Nat, s.heap.size ≤ q → A q := fun q h => by rw [← hAe]; exact Or.inr h
  have hS : va_S A s.heap s.heap [] := va_S.rf
  have hl := lv_entry ([.ref p0, .long 0]) (n := 5) (Nat.le_of_ble_eq_true rfl)
  rw [lg_entry_eq]
  generalize (lg_sl ([.ref p0, .long 0]) ++ List.replicate (5 - (lg_sl ([.ref p0, .long 0])).length) Slot.unset).toArray = ls at hl ⊢
  have hl : lv_has ls 5 [(0, .ref p0), (1, .long 0)] := hl
  refine lv_iconst (v := 0) hx hb dJ7_fill_d0a16_0 (by decide) ?_
  refine lv_istore_n (lv' := [(3, .int 0), (0, .ref p0), (1, .long 0)]) hx hb dJ7_fill_d0a16_1 rfl hl (by decide) rfl (fun ls hl => ?_)
  refine lv_aload_n hx hb dJ7_fill_d0a16_2 rfl (lv_at hl 1 rfl) ?_
  refine va_alen (v := 1000) hx hb hK hP 0 2 rfl rfl (show Int32.ofNat 1000 = 1000 from by decide) dJ7_fill_d0a16_3 ?_
  refine lv_istore (lv' := [(4, .int 1000), (3, .int 0), (0, .ref p0), (1, .long 0)]) hx hb dJ7_fill_d0a16_4 hl (by decide) rfl (fun ls hl => ?_)
  refine loop_r (Wg := fun H locs ls => W p l e _ s m _ below meth c H locs _ _ _ (F0 m 6 ls [])) (fun n9 H locs ls => ∃ (L6l3 : Int32) (L6a0 : Nat → Int64), n9 = (1000 - L6l3.toInt).toNat ∧ (0 ≤ L6l3.toInt ∧ L6l3.toInt ≤ 1000) ∧ va_P D vwCl [(p0, .inl (k 2, 1000, .inr (.inl L6a0)))] H ∧ va_D A [(p0, .inl (k 2, 1000, .inr (.inl L6a0)))] ∧ va_S A s.heap H locs ∧ lv_has ls 5 [(0, .ref p0), (1, .long 0), (3, .int L6l3), (4, .int 1000)]) (fun n9 H locs ls hI ih_1 => ?_) _ _ _ _ ⟨0, f0, rfl, (show 0 ≤ 0 ∧ 0 ≤ 1000 from by omega), hP.sub (ws' := [(p0, .inl (k 2, 1000, .inr (.inl f0)))]) [0] rfl, hD.sub (ws' := [(p0, .inl (k 2, 1000, .inr (.inl f0)))]) [0] (by decide +kernel) rfl, hS, lv_sub hl [2, 3, 1, 0] rfl⟩
  clear hP hD hS hl
  obtain ⟨L6l3, L6a0, en_2, zL6l3, hP, hD, hS, hl⟩ := hI
  refine lv_iload_n hx hb dJ7_fill_d0a16_6 rfl (lv_at hl 2 rfl) ?_
  refine lv_iload hx hb dJ7_fill_d0a16_7 (lv_at hl 3 rfl) ?_
  refine lv_icmp_ge (tgt := 22) hx hb dJ7_fill_d0a16_9 (by decide) (fun h_3 => ?_) (fun h_3 => ?_)
  · skip
    have zh_3 : 1000 ≤ L6l3.toInt := z_le h_3
    obtain ⟨hP9, hD9⟩ := sub2 hP hD (ws' := [(p0, .inl (k 2, 1000, .inr (.inl L6a0)))]) [0] (by decide +kernel) rfl
    exact W.vret hx hb hr (fun tZ ht hW => ⟨⟨L6a0, rfl, trivial, by rw [ht]; exact hP9, va_K.moved hW.alike hK, hD9⟩, hS.F ht⟩) hS.2.2 dJ7_fill_d0a16_22
  · skip
    have zh_3 : L6l3.toInt < 1000 := z_nle h_3
    refine lv_aload_n hx hb dJ7_fill_d0a16_12 rfl (lv_at hl 0 rfl) ?_
    refine lv_iload_n hx hb dJ7_fill_d0a16_13 rfl (lv_at hl 2 rfl) ?_
    refine lv_lload_n hx hb dJ7_fill_d0a16_14 rfl (lv_at hl 1 rfl) ?_
    refine va_last hx hb hK hP hD hS 0 2 rfl rfl (z_in (by omega) (by omega)) dJ7_fill_d0a16_15 (fun H locs hP hD hS => ?_)
    obtain ⟨g_4, eg_4⟩ : ∃ z : Nat → Int64, vp_updL L6a0 L6l3.toNatClampNeg 0 = z := ⟨_, rfl⟩
    have hP : va_P D vwCl [(p0, .inl (k 2, 1000, .inr (.inl (vp_updL L6a0 L6l3.toNatClampNeg 0))))] H := hP
    have hD : va_D A [(p0, .inl (k 2, 1000, .inr (.inl (vp_updL L6a0 L6l3.toNatClampNeg 0))))] := hD
    rw [eg_4] at hP hD
    obtain ⟨x_5, ex_5⟩ : ∃ y : Int32, y = L6l3 + 1 := ⟨_, rfl⟩
    have zx_5 : x_5.toInt = L6l3.toInt + 1 := by rw [ex_5]; exact z_add rfl rfl (by omega) (by omega)
    refine lv_iinc (v := x_5) (lv' := [(3, .int x_5), (0, .ref p0), (1, .long 0), (4, .int 1000)]) hx hb dJ7_fill_d0a16_16 hl (k := 2) rfl (by rw [ex_5]; rfl) (by decide) rfl (fun ls hl => ?_)
    refine lv_goto (tgt := 6) hx hb dJ7_fill_d0a16_19 (by decide) ?_
    exact ih_1 _ _ _ _ (by omega) ⟨x_5, g_4, rfl, (show 0 ≤ x_5.toInt ∧ x_5.toInt ≤ 1000 from by omega), hP.sub (ws' := [(p0, .inl (k 2, 1000, .inr (.inl g_4)))]) [0] rfl, hD.sub (ws' := [(p0, .inl (k 2, 1000, .inr (.inl g_4)))]) [0] (by decide +kernel) rfl, hS, lv_sub hl [1, 2, 0, 3] rfl⟩
set_option maxHeartbeats 4000000 in
set_option maxRecDepth 100000 in
theorem c_J6_bitCount_0f7a4 (l : Launch) (D : va_G) (k : Nat → ClassId) (p0 : Int32) (sz : Nat) : Met l yJ6_bitCount_0f7a4 (ww yJ6_bitCount_0f7a4 cJ6_bitCount_0f7a4 1 (some .int)) ({ frames := 0, cells := 0, slots := 0, locals := 0 }) (Pre0 D k [] sz [.int p0]) (va_Qi (fun (r : Int32) (_ : Unit) => (0 ≤ r.toInt ∧ r.toInt ≤ 63)) (fun (_ : Unit) tZ => Bw D k (va_A [] sz) [] tZ) (va_A [] sz)) 0 0 (va_A [] sz) := by
  refine Met.ofW (cc := cJ6_bitCount_0f7a4) (maxL := 1) (ret := (some .int)) (by decide +kernel) rfl ?_
  intro p e s m args below meth c s₁ B hml hv
  obtain ⟨rfl, hsz, hP, hK, hD0, hN⟩ := hv
  have hx := B.exec
  have hb := B.bytes
  have hr := B.returns
  have hts : ∀ w ∈ TT, w.before _ s = true := fun w h => atoms_spec (ws := ww yJ6_bitCount_0f7a4 cJ6_bitCount_0f7a4 1 (some .int)) B.pre w (List.mem_cons_of_mem _ h)
  have hown : s.vm.findClass RJ6 = some m.cls := findClass_of_methodNamed B.named
  have hlocks := B.notSynchronized
  subst hsz
  have hD := hD0.self (sz := s.heap.size)
  generalize hAe : va_A [] s.heap.size = A at hD ⊢
  have hA : ∀ q : Nat, s.heap.size ≤ q → A q := fun q h => by rw [← hAe]; exact Or.inr h
  have hS : va_S A s.heap s.heap [] := va_S.rf
  have hl := lv_entry ([.int p0]) (n := 1) (Nat.le_of_ble_eq_true rfl)
  rw [lg_entry_eq]
  generalize (lg_sl ([.int p0]) ++ List.replicate (1 - (lg_sl ([.int p0])).length) Slot.unset).toArray = ls at hl ⊢
  have hl : lv_has ls 1 [(0, .int p0)] := hl
  refine lv_iload_n hx hb dJ6_bitCount_0f7a4_0 rfl (lv_at hl 0 rfl) ?_
  refine lv_iload_n hx hb dJ6_bitCount_0f7a4_1 rfl (lv_at hl 0 rfl) ?_
  refine lv_iconst (v := 1) hx hb dJ6_bitCount_0f7a4_2 (by decide) ?_
  refine lv_iushr hx hb dJ6_bitCount_0f7a4_3 rfl ?_
  refine lv_topi (fun x_1 ex_1 => ?_)
  have zrp0 := z_rng p0
  refine lv_ldcw (v := 1431655765) hx hb hown (hts _ tw_4_103) dJ6_bitCount_0f7a4_4 ?_
  refine lv_iand hx hb dJ6_bitCount_0f7a4_7 ?_
  refine lv_topi (fun x_2 ex_2 => ?_)
  have zrx_1 := z_rng x_1
  have zx_2 : 0 ≤ x_2.toInt ∧ x_2.toInt ≤ 1431655765 := by rw [ex_2]; exact z_andR (by decide)
  refine lv_isub hx hb dJ6_bitCount_0f7a4_8 ?_
  refine lv_topi (fun x_3 ex_3 => ?_)
  refine lv_istore_n (lv' := [(0, .int x_3)]) hx hb dJ6_bitCount_0f7a4_9 rfl hl (by decide) rfl (fun ls hl => ?_)
  refine lv_iload_n hx hb dJ6_bitCount_0f7a4_10 rfl (lv_at hl 0 rfl) ?_
  refine lv_ldcw (v := 858993459) hx hb hown (hts _ tw_4_104) dJ6_bitCount_0f7a4_11 ?_
  refine lv_iand hx hb dJ6_bitCount_0f7a4_14 ?_
  refine lv_topi (fun x_4 ex_4 => ?_)
  have zrx_3 := z_rng x_3
  have zx_4 : 0 ≤ x_4.toInt ∧ x_4.toInt ≤ 858993459 := by rw [ex_4]; exact z_andR (by decide)
  refine lv_iload_n hx hb dJ6_bitCount_0f7a4_15 rfl (lv_at hl 0 rfl) ?_
  refine lv_iconst (v := 2) hx hb dJ6_bitCount_0f7a4_16 (by decide) ?_
  refine lv_iushr hx hb dJ6_bitCount_0f7a4_17 rfl ?_
  refine lv_topi (fun x_5 ex_5 => ?_)
  refine lv_ldcw (v := 858993459) hx hb hown (hts _ tw_4_104) dJ6_bitCount_0f7a4_18 ?_
  refine lv_iand hx hb dJ6_bitCount_0f7a4_21 ?_
  refine lv_topi (fun x_6 ex_6 => ?_)
  have zrx_5 := z_rng x_5
  have zx_6 : 0 ≤ x_6.toInt ∧ x_6.toInt ≤ 858993459 := by rw [ex_6]; exact z_andR (by decide)
  refine lv_iadd hx hb dJ6_bitCount_0f7a4_22 ?_
  refine lv_topi (fun x_7 ex_7 => ?_)
  have zx_7 : x_7.toInt = x_4.toInt + x_6.toInt := by rw [ex_7]; exact z_add rfl rfl (by omega) (by omega)
  refine lv_istore_n (lv' := [(0, .int x_7)]) hx hb dJ6_bitCount_0f7a4_23 rfl hl (by decide) rfl (fun ls hl => ?_)
  refine lv_iload_n hx hb dJ6_bitCount_0f7a4_24 rfl (lv_at hl 0 rfl) ?_
  refine lv_iload_n hx hb dJ6_bitCount_0f7a4_25 rfl (lv_at hl 0 rfl) ?_
  refine lv_iconst (v := 4) hx hb dJ6_bitCount_0f7a4_26 (by decide) ?_
  refine lv_iushr hx hb dJ6_bitCount_0f7a4_27 rfl ?_
  refine lv_topi (fun x_8 ex_8 => ?_)
  refine lv_iadd hx hb dJ6_bitCount_0f7a4_28 ?_
  refine lv_topi (fun x_9 ex_9 => ?_)
  have zrx_8 := z_rng x_8
  refine lv_ldcw (v := 252645135) hx hb hown (hts _ tw_4_105) dJ6_bitCount_0f7a4_29 ?_
  refine lv_iand hx hb dJ6_bitCount_0f7a4_32 ?_
  refine lv_topi (fun x_10 ex_10 => ?_)
  have zrx_9 := z_rng x_9
  have zx_10 : 0 ≤ x_10.toInt ∧ x_10.toInt ≤ 252645135 := by rw [ex_10]; exact z_andR (by decide)
  refine lv_istore_n (lv' := [(0, .int x_10)]) hx hb dJ6_bitCount_0f7a4_33 rfl hl (by decide) rfl (fun ls hl => ?_)
  refine lv_iload_n hx hb dJ6_bitCount_0f7a4_34 rfl (lv_at hl 0 rfl) ?_
  refine lv_iload_n hx hb dJ6_bitCount_0f7a4_35 rfl (lv_at hl 0 rfl) ?_
  refine lv_bipush (v := 8) hx hb dJ6_bitCount_0f7a4_36 (by decide) ?_
  refine lv_iushr hx hb dJ6_bitCount_0f7a4_38 rfl ?_
  refine lv_topi (fun x_11 ex_11 => ?_)
  refine lv_iadd hx hb dJ6_bitCount_0f7a4_39 ?_
  refine lv_topi (fun x_12 ex_12 => ?_)
  have zrx_11 := z_rng x_11
  refine lv_istore_n (lv' := [(0, .int x_12)]) hx hb dJ6_bitCount_0f7a4_40 rfl hl (by decide) rfl (fun ls hl => ?_)
  refine lv_iload_n hx hb dJ6_bitCount_0f7a4_41 rfl (lv_at hl 0 rfl) ?_
  refine lv_iload_n hx hb dJ6_bitCount_0f7a4_42 rfl (lv_at hl 0 rfl) ?_
  refine lv_bipush (v := 16) hx hb dJ6_bitCount_0f7a4_43 (by decide) ?_
  refine lv_iushr hx hb dJ6_bitCount_0f7a4_45 rfl ?_
  refine lv_topi (fun x_13 ex_13 => ?_)
  have zrx_12 := z_rng x_12
  refine lv_iadd hx hb dJ6_bitCount_0f7a4_46 ?_
  refine lv_topi (fun x_14 ex_14 => ?_)
  have zrx_13 := z_rng x_13
  refine lv_istore_n (lv' := [(0, .int x_14)]) hx hb dJ6_bitCount_0f7a4_47 rfl hl (by decide) rfl (fun ls hl => ?_)
  refine lv_iload_n hx hb dJ6_bitCount_0f7a4_48 rfl (lv_at hl 0 rfl) ?_
  refine lv_bipush (v := 63) hx hb dJ6_bitCount_0f7a4_49 (by decide) ?_
  refine lv_iand hx hb dJ6_bitCount_0f7a4_51 ?_
  refine lv_topi (fun x_15 ex_15 => ?_)
  have zrx_14 := z_rng x_14
  have zx_15 : 0 ≤ x_15.toInt ∧ x_15.toInt < 64 := by rw [ex_15]; exact z_and _ 6 64 rfl rfl (by decide)
  obtain ⟨hP9, hD9⟩ := sub2 hP hD (ws' := []) [] (by decide +kernel) rfl
  exact W.iret (v := x_15) hx hb hr (fun tZ ht hW => ⟨⟨x_15, (), rfl, (show 0 ≤ x_15.toInt ∧ x_15.toInt ≤ 63 from by omega), by rw [ht]; exact hP9, va_K.moved hW.alike hK, hD9⟩, hS.F ht⟩) hS.2.2 dJ6_bitCount_0f7a4_52
