set_option maxHeartbeats 4000000 in
set_option maxRecDepth 100000 in
theorem c_X11_hasNoTown (l : Launch) (D : va_G) (k : Nat → ClassId) (g : Nat) (g0 : Nat) (g1 : Nat) (g2 : Nat) (g4 : Nat) (g5 : Nat) (g6 : Nat) (g7 : Nat) (g8 : Nat) (g9 : Nat) (g10 : Nat) (g11 : Nat) (g12 : Nat) (t3 : Nat) (t4 : Nat) (t5 : Nat) (t6 : Nat) (t9 : Nat) (t10 : Nat) (t12 : Nat) (t13 : Nat) (t14 : Nat) (t15 : Nat) (t17 : Nat) (t18 : Nat) (t19 : Nat) (sz : Nat) : Met l yX11_hasNoTown (ww yX11_hasNoTown cX11_hasNoTown 1 (some .boolean)) ({ frames := 0, cells := 0, slots := 0, locals := 0 }) (Pre0 D k [(g, .inr (11, [.ref g0, .ref g1, .ref g2, .int 0, .ref g4, .ref g5, .ref g6, .ref g7, .ref g8, .ref g9, .ref g10, .ref g11, .ref g12])), (g1, .inr (10, [.int 0, .int 0, .int 0, .ref t3, .ref t4, .ref t5, .ref t6, .int 0, .int 0, .ref t9, .ref t10, .int 0, .ref t12, .ref t13, .ref t14, .ref t15, .int 0, .ref t17, .ref t18, .ref t19]))] sz [.ref g]) (va_Qi (fun (r : Int32) (_ : Unit) => r = 1) (fun (_ : Unit) tZ => Bw D k (va_A [(g, .inr (11, [.ref g0, .ref g1, .ref g2, .int 0, .ref g4, .ref g5, .ref g6, .ref g7, .ref g8, .ref g9, .ref g10, .ref g11, .ref g12])), (g1, .inr (10, [.int 0, .int 0, .int 0, .ref t3, .ref t4, .ref t5, .ref t6, .int 0, .int 0, .ref t9, .ref t10, .int 0, .ref t12, .ref t13, .ref t14, .ref t15, .int 0, .ref t17, .ref t18, .ref t19]))] sz) [(g, .inr (11, [.ref g0, .ref g1, .ref g2, .int 0, .ref g4, .ref g5, .ref g6, .ref g7, .ref g8, .ref g9, .ref g10, .ref g11, .ref g12])), (g1, .inr (10, [.int 0, .int 0, .int 0, .ref t3, .ref t4, .ref t5, .ref t6, .int 0, .int 0, .ref t9, .ref t10, .int 0, .ref t12, .ref t13, .ref t14, .ref t15, .int 0, .ref t17, .ref t18, .ref t19]))] tZ) (va_A [(g, .inr (11, [.ref g0, .ref g1, .ref g2, .int 0, .ref g4, .ref g5, .ref g6, .ref g7, .ref g8, .ref g9, .ref g10, .ref g11, .ref g12])), (g1, .inr (10, [.int 0, .int 0, .int 0, .ref t3, .ref t4, .ref t5, .ref t6, .int 0, .int 0, .ref t9, .ref t10, .int 0, .ref t12, .ref t13, .ref t14, .ref t15, .int 0, .ref t17, .ref t18, .ref t19]))] sz)) 0 0 (va_A [(g, .inr (11, [.ref g0, .ref g1, .ref g2, .int 0, .ref g4, .ref g5, .ref g6, .ref g7, .ref g8, .ref g9, .ref g10, .ref g11, .ref g12])), (g1, .inr (10, [.int 0, .int 0, .int 0, .ref t3, .ref t4, .ref t5, .ref t6, .int 0, .int 0, .ref t9, .ref t10, .int 0, .ref t12, .ref t13, .ref t14, .ref t15, .int 0, .ref t17, .ref t18, .ref t19]))] sz) := by
  refine Met.ofW (cc := cX11_hasNoTown) (maxL := 1) (ret := (some .boolean)) (by decide +kernel) rfl ?_
  intro p e s m args below meth c s₁ B hml hv
  obtain ⟨rfl, hsz, hP, hK, hD0, hN⟩ := hv
  have hx := B.exec
  have hb := B.bytes
  have hr := B.returns
  have hts : ∀ w ∈ TT, w.before _ s = true := fun w h => atoms_spec (ws := ww yX11_hasNoTown cX11_hasNoTown 1 (some .boolean)) B.pre w (List.mem_cons_of_mem _ h)
  have hown : s.vm.findClass RX11 = some m.cls := findClass_of_methodNamed B.named
  have hlocks := B.notSynchronized
  subst hsz
  have hD := hD0.self (sz := s.heap.size)
  generalize hAe : va_A [(g, .inr (11, [.ref g0, .ref g1, .ref g2, .int 0, .ref g4, .ref g5, .ref g6, .ref g7, .ref g8, .ref g9, .ref g10, .ref g11, .ref g12])), (g1, .inr (10, [.int 0, .int 0, .int 0, .ref t3, .ref t4, .ref t5, .ref t6, .int 0, .int 0, .ref t9, .ref t10, .int 0, .ref t12, .ref t13, .ref t14, .ref t15, .int 0, .ref t17, .ref t18, .ref t19]))] s.heap.size = A at hD ⊢
  have hA : ∀ q : Nat, s.heap.size ≤ q → A q := fun q h => by rw [← hAe]; exact Or.inr h
  have hS : va_S A s.heap s.heap [] := va_S.rf
  have hl := lv_entry ([.ref g]) (n := 1) (Nat.le_of_ble_eq_true rfl)
  rw [lg_entry_eq]
  generalize (lg_sl ([.ref g]) ++ List.replicate (1 - (lg_sl ([.ref g])).length) Slot.unset).toArray = ls at hl ⊢
  have hl : lv_has ls 1 [(0, .ref g)] := hl
  refine lv_aload_n hx hb dX11_hasNoTown_0 rfl (lv_at hl 0 rfl) ?_
  refine va_get (D := D) (ci := 11) (v := .ref g1) (C := RX11) (T := TX11) (N := 13) hx hb hts iT_X11 hown hK hP 0 rfl rfl 1 (by decide) (hts _ tw_2_171) (fun _ h9 => h9) rfl dX11_hasNoTown_1 ?_
  refine va_get (D := D) (ci := 10) (v := .int 0) (C := RX10) (T := TX10) (N := 20) hx hb hts iT_X10 hown hK hP 1 rfl rfl 0 (by decide) (hts _ tw_1_73) (fun _ h9 => h9) rfl dX11_hasNoTown_4 ?_
  refine lv_if_ne (tgt := 14) hx hb dX11_hasNoTown_7 (by decide) (fun c9 => absurd c9 (by decide)) (fun _ => ?_)
  refine lv_iconst (v := 1) hx hb dX11_hasNoTown_10 (by decide) ?_
  refine lv_goto (tgt := 15) hx hb dX11_hasNoTown_11 (by decide) ?_
  have hP9 := hP.sub (ws' := [(g, .inr (11, [.ref g0, .ref g1, .ref g2, .int 0, .ref g4, .ref g5, .ref g6, .ref g7, .ref g8, .ref g9, .ref g10, .ref g11, .ref g12])), (g1, .inr (10, [.int 0, .int 0, .int 0, .ref t3, .ref t4, .ref t5, .ref t6, .int 0, .int 0, .ref t9, .ref t10, .int 0, .ref t12, .ref t13, .ref t14, .ref t15, .int 0, .ref t17, .ref t18, .ref t19]))]) [0, 1] rfl
  have hD9 := hD.sub (ws' := [(g, .inr (11, [.ref g0, .ref g1, .ref g2, .int 0, .ref g4, .ref g5, .ref g6, .ref g7, .ref g8, .ref g9, .ref g10, .ref g11, .ref g12])), (g1, .inr (10, [.int 0, .int 0, .int 0, .ref t3, .ref t4, .ref t5, .ref t6, .int 0, .int 0, .ref t9, .ref t10, .int 0, .ref t12, .ref t13, .ref t14, .ref t15, .int 0, .ref t17, .ref t18, .ref t19]))]) [0, 1] (by decide) rfl
  exact W.zret (v := 1) hx hb hr (by decide) (fun tZ ht hW => ⟨⟨1, (), rfl, rfl, by rw [ht]; exact hP9, va_K.moved hW.alike hK, hD9⟩, hS.F ht⟩) hS.2.2 dX11_hasNoTown_15
set_option maxHeartbeats 4000000 in
set_option maxRecDepth 100000 in
theorem c_X11_isStreet (l : Launch) (D : va_G) (k : Nat → ClassId) (g : Nat) (g0 : Nat) (g1 : Nat) (g2 : Nat) (g4 : Nat) (g5 : Nat) (g6 : Nat) (g7 : Nat) (g8 : Nat) (g9 : Nat) (g10 : Nat) (g11 : Nat) (g12 : Nat) (t3 : Nat) (t4 : Nat) (t5 : Nat) (t6 : Nat) (t9 : Nat) (t10 : Nat) (t12 : Nat) (t13 : Nat) (t14 : Nat) (t15 : Nat) (t17 : Nat) (t18 : Nat) (t19 : Nat) (p0 : Int32) (sz : Nat) : Met l yX11_isStreet (ww yX11_isStreet cX11_isStreet 2 (some .boolean)) ({ frames := 0, cells := 0, slots := 0, locals := 0 }) (Pre0 D k [(g, .inr (11, [.ref g0, .ref g1, .ref g2, .int 0, .ref g4, .ref g5, .ref g6, .ref g7, .ref g8, .ref g9, .ref g10, .ref g11, .ref g12])), (g1, .inr (10, [.int 0, .int 0, .int 0, .ref t3, .ref t4, .ref t5, .ref t6, .int 0, .int 0, .ref t9, .ref t10, .int 0, .ref t12, .ref t13, .ref t14, .ref t15, .int 0, .ref t17, .ref t18, .ref t19]))] sz [.ref g, .int p0]) (va_Qi (fun (r : Int32) (_ : Unit) => r = 0) (fun (_ : Unit) tZ => Bw D k (va_A [(g, .inr (11, [.ref g0, .ref g1, .ref g2, .int 0, .ref g4, .ref g5, .ref g6, .ref g7, .ref g8, .ref g9, .ref g10, .ref g11, .ref g12])), (g1, .inr (10, [.int 0, .int 0, .int 0, .ref t3, .ref t4, .ref t5, .ref t6, .int 0, .int 0, .ref t9, .ref t10, .int 0, .ref t12, .ref t13, .ref t14, .ref t15, .int 0, .ref t17, .ref t18, .ref t19]))] sz) [(g, .inr (11, [.ref g0, .ref g1, .ref g2, .int 0, .ref g4, .ref g5, .ref g6, .ref g7, .ref g8, .ref g9, .ref g10, .ref g11, .ref g12])), (g1, .inr (10, [.int 0, .int 0, .int 0, .ref t3, .ref t4, .ref t5, .ref t6, .int 0, .int 0, .ref t9, .ref t10, .int 0, .ref t12, .ref t13, .ref t14, .ref t15, .int 0, .ref t17, .ref t18, .ref t19]))] tZ) (va_A [(g, .inr (11, [.ref g0, .ref g1, .ref g2, .int 0, .ref g4, .ref g5, .ref g6, .ref g7, .ref g8, .ref g9, .ref g10, .ref g11, .ref g12])), (g1, .inr (10, [.int 0, .int 0, .int 0, .ref t3, .ref t4, .ref t5, .ref t6, .int 0, .int 0, .ref t9, .ref t10, .int 0, .ref t12, .ref t13, .ref t14, .ref t15, .int 0, .ref t17, .ref t18, .ref t19]))] sz)) 0 0 (va_A [(g, .inr (11, [.ref g0, .ref g1, .ref g2, .int 0, .ref g4, .ref g5, .ref g6, .ref g7, .ref g8, .ref g9, .ref g10, .ref g11, .ref g12])), (g1, .inr (10, [.int 0, .int 0, .int 0, .ref t3, .ref t4, .ref t5, .ref t6, .int 0, .int 0, .ref t9, .ref t10, .int 0, .ref t12, .ref t13, .ref t14, .ref t15, .int 0, .ref t17, .ref t18, .ref t19]))] sz) := by
  refine Met.ofW (cc := cX11_isStreet) (maxL := 2) (ret := (some .boolean)) (by decide +kernel) rfl ?_
  intro p e s m args below meth c s₁ B hml hv
  obtain ⟨rfl, hsz, hP, hK, hD0, hN⟩ := hv
  have hx := B.exec
  have hb := B.bytes
  have hr := B.returns
  have hts : ∀ w ∈ TT, w.before _ s = true := fun w h => atoms_spec (ws := ww yX11_isStreet cX11_isStreet 2 (some .boolean)) B.pre w (List.mem_cons_of_mem _ h)
  have hown : s.vm.findClass RX11 = some m.cls := findClass_of_methodNamed B.named
  have hlocks := B.notSynchronized
  subst hsz
  have hD := hD0.self (sz := s.heap.size)
  generalize hAe : va_A [(g, .inr (11, [.ref g0, .ref g1, .ref g2, .int 0, .ref g4, .ref g5, .ref g6, .ref g7, .ref g8, .ref g9, .ref g10, .ref g11, .ref g12])), (g1, .inr (10, [.int 0, .int 0, .int 0, .ref t3, .ref t4, .ref t5, .ref t6, .int 0, .int 0, .ref t9, .ref t10, .int 0, .ref t12, .ref t13, .ref t14, .ref t15, .int 0, .ref t17, .ref t18, .ref t19]))] s.heap.size = A at hD ⊢
  have hA : ∀ q : Nat, s.heap.size ≤ q → A q := fun q h => by rw [← hAe]; exact Or.inr h
  have hS : va_S A s.heap s.heap [] := va_S.rf
  have hl := lv_entry ([.ref g, .int p0]) (n := 2) (Nat.le_of_ble_eq_true rfl)
  rw [lg_entry_eq]
  generalize (lg_sl ([.ref g, .int p0]) ++ List.replicate (2 - (lg_sl ([.ref g, .int p0])).length) Slot.unset).toArray = ls at hl ⊢
  have hl : lv_has ls 2 [(0, .ref g), (1, .int p0)] := hl
  refine lv_iload_n hx hb dX11_isStreet_0 rfl (lv_at hl 1 rfl) ?_
  refine lv_if_lt (tgt := 19) hx hb dX11_isStreet_1 (by decide) (fun h_1 => ?_) (fun h_1 => ?_)
  · skip
    have zh_1 : p0.toInt < 0 := z_lt h_1
    refine lv_iconst (v := 0) hx hb dX11_isStreet_19 (by decide) ?_
    have hP9 := hP.sub (ws' := [(g, .inr (11, [.ref g0, .ref g1, .ref g2, .int 0, .ref g4, .ref g5, .ref g6, .ref g7, .ref g8, .ref g9, .ref g10, .ref g11, .ref g12])), (g1, .inr (10, [.int 0, .int 0, .int 0, .ref t3, .ref t4, .ref t5, .ref t6, .int 0, .int 0, .ref t9, .ref t10, .int 0, .ref t12, .ref t13, .ref t14, .ref t15, .int 0, .ref t17, .ref t18, .ref t19]))]) [0, 1] rfl
    have hD9 := hD.sub (ws' := [(g, .inr (11, [.ref g0, .ref g1, .ref g2, .int 0, .ref g4, .ref g5, .ref g6, .ref g7, .ref g8, .ref g9, .ref g10, .ref g11, .ref g12])), (g1, .inr (10, [.int 0, .int 0, .int 0, .ref t3, .ref t4, .ref t5, .ref t6, .int 0, .int 0, .ref t9, .ref t10, .int 0, .ref t12, .ref t13, .ref t14, .ref t15, .int 0, .ref t17, .ref t18, .ref t19]))]) [0, 1] (by decide) rfl
    exact W.zret (v := 0) hx hb hr (by decide) (fun tZ ht hW => ⟨⟨0, (), rfl, rfl, by rw [ht]; exact hP9, va_K.moved hW.alike hK, hD9⟩, hS.F ht⟩) hS.2.2 dX11_isStreet_20
  · skip
    have zh_1 : 0 ≤ p0.toInt := z_nlt h_1
    refine lv_iload_n hx hb dX11_isStreet_4 rfl (lv_at hl 1 rfl) ?_
    refine lv_aload_n hx hb dX11_isStreet_5 rfl (lv_at hl 0 rfl) ?_
    refine va_get (D := D) (ci := 11) (v := .ref g1) (C := RX11) (T := TX11) (N := 13) hx hb hts iT_X11 hown hK hP 0 rfl rfl 1 (by decide) (hts _ tw_2_171) (fun _ h9 => h9) rfl dX11_isStreet_6 ?_
    refine va_get (D := D) (ci := 10) (v := .int 0) (C := RX10) (T := TX10) (N := 20) hx hb hts iT_X10 hown hK hP 1 rfl rfl 0 (by decide) (hts _ tw_1_73) (fun _ h9 => h9) rfl dX11_isStreet_9 ?_
    refine lv_icmp_ge (tgt := 19) hx hb dX11_isStreet_12 (by decide) (fun h_2 => ?_) (fun h_2 => ?_)
    · skip
      have zh_2 : 0 ≤ p0.toInt := z_le h_2
      refine lv_iconst (v := 0) hx hb dX11_isStreet_19 (by decide) ?_
      have hP9 := hP.sub (ws' := [(g, .inr (11, [.ref g0, .ref g1, .ref g2, .int 0, .ref g4, .ref g5, .ref g6, .ref g7, .ref g8, .ref g9, .ref g10, .ref g11, .ref g12])), (g1, .inr (10, [.int 0, .int 0, .int 0, .ref t3, .ref t4, .ref t5, .ref t6, .int 0, .int 0, .ref t9, .ref t10, .int 0, .ref t12, .ref t13, .ref t14, .ref t15, .int 0, .ref t17, .ref t18, .ref t19]))]) [0, 1] rfl
      have hD9 := hD.sub (ws' := [(g, .inr (11, [.ref g0, .ref g1, .ref g2, .int 0, .ref g4, .ref g5, .ref g6, .ref g7, .ref g8, .ref g9, .ref g10, .ref g11, .ref g12])), (g1, .inr (10, [.int 0, .int 0, .int 0, .ref t3, .ref t4, .ref t5, .ref t6, .int 0, .int 0, .ref t9, .ref t10, .int 0, .ref t12, .ref t13, .ref t14, .ref t15, .int 0, .ref t17, .ref t18, .ref t19]))]) [0, 1] (by decide) rfl
      exact W.zret (v := 0) hx hb hr (by decide) (fun tZ ht hW => ⟨⟨0, (), rfl, rfl, by rw [ht]; exact hP9, va_K.moved hW.alike hK, hD9⟩, hS.F ht⟩) hS.2.2 dX11_isStreet_20
    · skip
      have zh_2 : p0.toInt < 0 := z_nle h_2
      exact False.elim (by omega)
set_option maxHeartbeats 4000000 in
set_option maxRecDepth 100000 in
theorem c_X11_isLane (l : Launch) (D : va_G) (k : Nat → ClassId) (g : Nat) (g0 : Nat) (g1 : Nat) (g2 : Nat) (g4 : Nat) (g5 : Nat) (g6 : Nat) (g7 : Nat) (g8 : Nat) (g9 : Nat) (g10 : Nat) (g11 : Nat) (g12 : Nat) (t3 : Nat) (t4 : Nat) (t5 : Nat) (t6 : Nat) (t9 : Nat) (t10 : Nat) (t12 : Nat) (t13 : Nat) (t14 : Nat) (t15 : Nat) (t17 : Nat) (t18 : Nat) (t19 : Nat) (p0 : Int32) (sz : Nat) : Met l yX11_isLane (ww yX11_isLane cX11_isLane 2 (some .boolean)) ({ frames := 0, cells := 0, slots := 0, locals := 0 }) (Pre0 D k [(g, .inr (11, [.ref g0, .ref g1, .ref g2, .int 0, .ref g4, .ref g5, .ref g6, .ref g7, .ref g8, .ref g9, .ref g10, .ref g11, .ref g12])), (g1, .inr (10, [.int 0, .int 0, .int 0, .ref t3, .ref t4, .ref t5, .ref t6, .int 0, .int 0, .ref t9, .ref t10, .int 0, .ref t12, .ref t13, .ref t14, .ref t15, .int 0, .ref t17, .ref t18, .ref t19]))] sz [.ref g, .int p0]) (va_Qi (fun (r : Int32) (_ : Unit) => r = 0) (fun (_ : Unit) tZ => Bw D k (va_A [(g, .inr (11, [.ref g0, .ref g1, .ref g2, .int 0, .ref g4, .ref g5, .ref g6, .ref g7, .ref g8, .ref g9, .ref g10, .ref g11, .ref g12])), (g1, .inr (10, [.int 0, .int 0, .int 0, .ref t3, .ref t4, .ref t5, .ref t6, .int 0, .int 0, .ref t9, .ref t10, .int 0, .ref t12, .ref t13, .ref t14, .ref t15, .int 0, .ref t17, .ref t18, .ref t19]))] sz) [(g, .inr (11, [.ref g0, .ref g1, .ref g2, .int 0, .ref g4, .ref g5, .ref g6, .ref g7, .ref g8, .ref g9, .ref g10, .ref g11, .ref g12])), (g1, .inr (10, [.int 0, .int 0, .int 0, .ref t3, .ref t4, .ref t5, .ref t6, .int 0, .int 0, .ref t9, .ref t10, .int 0, .ref t12, .ref t13, .ref t14, .ref t15, .int 0, .ref t17, .ref t18, .ref t19]))] tZ) (va_A [(g, .inr (11, [.ref g0, .ref g1, .ref g2, .int 0, .ref g4, .ref g5, .ref g6, .ref g7, .ref g8, .ref g9, .ref g10, .ref g11, .ref g12])), (g1, .inr (10, [.int 0, .int 0, .int 0, .ref t3, .ref t4, .ref t5, .ref t6, .int 0, .int 0, .ref t9, .ref t10, .int 0, .ref t12, .ref t13, .ref t14, .ref t15, .int 0, .ref t17, .ref t18, .ref t19]))] sz)) 0 0 (va_A [(g, .inr (11, [.ref g0, .ref g1, .ref g2, .int 0, .ref g4, .ref g5, .ref g6, .ref g7, .ref g8, .ref g9, .ref g10, .ref g11, .ref g12])), (g1, .inr (10, [.int 0, .int 0, .int 0, .ref t3, .ref t4, .ref t5, .ref t6, .int 0, .int 0, .ref t9, .ref t10, .int 0, .ref t12, .ref t13, .ref t14, .ref t15, .int 0, .ref t17, .ref t18, .ref t19]))] sz) := by
  refine Met.ofW (cc := cX11_isLane) (maxL := 2) (ret := (some .boolean)) (by decide +kernel) rfl ?_
  intro p e s m args below meth c s₁ B hml hv
  obtain ⟨rfl, hsz, hP, hK, hD0, hN⟩ := hv
  have hx := B.exec
  have hb := B.bytes
  have hr := B.returns
  have hts : ∀ w ∈ TT, w.before _ s = true := fun w h => atoms_spec (ws := ww yX11_isLane cX11_isLane 2 (some .boolean)) B.pre w (List.mem_cons_of_mem _ h)
  have hown : s.vm.findClass RX11 = some m.cls := findClass_of_methodNamed B.named
  have hlocks := B.notSynchronized
  subst hsz
  have hD := hD0.self (sz := s.heap.size)
  generalize hAe : va_A [(g, .inr (11, [.ref g0, .ref g1, .ref g2, .int 0, .ref g4, .ref g5, .ref g6, .ref g7, .ref g8, .ref g9, .ref g10, .ref g11, .ref g12])), (g1, .inr (10, [.int 0, .int 0, .int 0, .ref t3, .ref t4, .ref t5, .ref t6, .int 0, .int 0, .ref t9, .ref t10, .int 0, .ref t12, .ref t13, .ref t14, .ref t15, .int 0, .ref t17, .ref t18, .ref t19]))] s.heap.size = A at hD ⊢
  have hA : ∀ q : Nat, s.heap.size ≤ q → A q := fun q h => by rw [← hAe]; exact Or.inr h
  have hS : va_S A s.heap s.heap [] := va_S.rf
  have hl := lv_entry ([.ref g, .int p0]) (n := 2) (Nat.le_of_ble_eq_true rfl)
  rw [lg_entry_eq]
  generalize (lg_sl ([.ref g, .int p0]) ++ List.replicate (2 - (lg_sl ([.ref g, .int p0])).length) Slot.unset).toArray = ls at hl ⊢
  have hl : lv_has ls 2 [(0, .ref g), (1, .int p0)] := hl
  refine lv_iload_n hx hb dX11_isLane_0 rfl (lv_at hl 1 rfl) ?_
  refine lv_if_lt (tgt := 19) hx hb dX11_isLane_1 (by decide) (fun h_1 => ?_) (fun h_1 => ?_)
  · skip
    have zh_1 : p0.toInt < 0 := z_lt h_1
    refine lv_iconst (v := 0) hx hb dX11_isLane_19 (by decide) ?_
    have hP9 := hP.sub (ws' := [(g, .inr (11, [.ref g0, .ref g1, .ref g2, .int 0, .ref g4, .ref g5, .ref g6, .ref g7, .ref g8, .ref g9, .ref g10, .ref g11, .ref g12])), (g1, .inr (10, [.int 0, .int 0, .int 0, .ref t3, .ref t4, .ref t5, .ref t6, .int 0, .int 0, .ref t9, .ref t10, .int 0, .ref t12, .ref t13, .ref t14, .ref t15, .int 0, .ref t17, .ref t18, .ref t19]))]) [0, 1] rfl
    have hD9 := hD.sub (ws' := [(g, .inr (11, [.ref g0, .ref g1, .ref g2, .int 0, .ref g4, .ref g5, .ref g6, .ref g7, .ref g8, .ref g9, .ref g10, .ref g11, .ref g12])), (g1, .inr (10, [.int 0, .int 0, .int 0, .ref t3, .ref t4, .ref t5, .ref t6, .int 0, .int 0, .ref t9, .ref t10, .int 0, .ref t12, .ref t13, .ref t14, .ref t15, .int 0, .ref t17, .ref t18, .ref t19]))]) [0, 1] (by decide) rfl
    exact W.zret (v := 0) hx hb hr (by decide) (fun tZ ht hW => ⟨⟨0, (), rfl, rfl, by rw [ht]; exact hP9, va_K.moved hW.alike hK, hD9⟩, hS.F ht⟩) hS.2.2 dX11_isLane_20
  · skip
    have zh_1 : 0 ≤ p0.toInt := z_nlt h_1
    refine lv_iload_n hx hb dX11_isLane_4 rfl (lv_at hl 1 rfl) ?_
    refine lv_aload_n hx hb dX11_isLane_5 rfl (lv_at hl 0 rfl) ?_
    refine va_get (D := D) (ci := 11) (v := .ref g1) (C := RX11) (T := TX11) (N := 13) hx hb hts iT_X11 hown hK hP 0 rfl rfl 1 (by decide) (hts _ tw_2_171) (fun _ h9 => h9) rfl dX11_isLane_6 ?_
    refine va_get (D := D) (ci := 10) (v := .int 0) (C := RX10) (T := TX10) (N := 20) hx hb hts iT_X10 hown hK hP 1 rfl rfl 2 (by decide) (hts _ tw_1_82) (fun _ h9 => h9) rfl dX11_isLane_9 ?_
    refine lv_icmp_ge (tgt := 19) hx hb dX11_isLane_12 (by decide) (fun h_2 => ?_) (fun h_2 => ?_)
    · skip
      have zh_2 : 0 ≤ p0.toInt := z_le h_2
      refine lv_iconst (v := 0) hx hb dX11_isLane_19 (by decide) ?_
      have hP9 := hP.sub (ws' := [(g, .inr (11, [.ref g0, .ref g1, .ref g2, .int 0, .ref g4, .ref g5, .ref g6, .ref g7, .ref g8, .ref g9, .ref g10, .ref g11, .ref g12])), (g1, .inr (10, [.int 0, .int 0, .int 0, .ref t3, .ref t4, .ref t5, .ref t6, .int 0, .int 0, .ref t9, .ref t10, .int 0, .ref t12, .ref t13, .ref t14, .ref t15, .int 0, .ref t17, .ref t18, .ref t19]))]) [0, 1] rfl
      have hD9 := hD.sub (ws' := [(g, .inr (11, [.ref g0, .ref g1, .ref g2, .int 0, .ref g4, .ref g5, .ref g6, .ref g7, .ref g8, .ref g9, .ref g10, .ref g11, .ref g12])), (g1, .inr (10, [.int 0, .int 0, .int 0, .ref t3, .ref t4, .ref t5, .ref t6, .int 0, .int 0, .ref t9, .ref t10, .int 0, .ref t12, .ref t13, .ref t14, .ref t15, .int 0, .ref t17, .ref t18, .ref t19]))]) [0, 1] (by decide) rfl
      exact W.zret (v := 0) hx hb hr (by decide) (fun tZ ht hW => ⟨⟨0, (), rfl, rfl, by rw [ht]; exact hP9, va_K.moved hW.alike hK, hD9⟩, hS.F ht⟩) hS.2.2 dX11_isLane_20
    · skip
      have zh_2 : p0.toInt < 0 := z_nle h_2
      exact False.elim (by omega)
set_option maxHeartbeats 4000000 in
set_option maxRecDepth 100000 in
theorem c_X11_isGate (l : Launch) (D : va_G) (k : Nat → ClassId) (g : Nat) (g0 : Nat) (g1 : Nat) (g2 : Nat) (g4 : Nat) (g5 : Nat) (g6 : Nat) (g7 : Nat) (g8 : Nat) (g9 : Nat) (g10 : Nat) (g11 : Nat) (g12 : Nat) (t3 : Nat) (t4 : Nat) (t5 : Nat) (t6 : Nat) (t9 : Nat) (t10 : Nat) (t12 : Nat) (t13 : Nat) (t14 : Nat) (t15 : Nat) (t17 : Nat) (t18 : Nat) (t19 : Nat) (p0 : Int32) (sz : Nat) : Met l yX11_isGate (ww yX11_isGate cX11_isGate 2 (some .boolean)) ({ frames := 0, cells := 0, slots := 0, locals := 0 }) (Pre0 D k [(g, .inr (11, [.ref g0, .ref g1, .ref g2, .int 0, .ref g4, .ref g5, .ref g6, .ref g7, .ref g8, .ref g9, .ref g10, .ref g11, .ref g12])), (g1, .inr (10, [.int 0, .int 0, .int 0, .ref t3, .ref t4, .ref t5, .ref t6, .int 0, .int 0, .ref t9, .ref t10, .int 0, .ref t12, .ref t13, .ref t14, .ref t15, .int 0, .ref t17, .ref t18, .ref t19]))] sz [.ref g, .int p0]) (va_Qi (fun (r : Int32) (_ : Unit) => r = 0) (fun (_ : Unit) tZ => Bw D k (va_A [(g, .inr (11, [.ref g0, .ref g1, .ref g2, .int 0, .ref g4, .ref g5, .ref g6, .ref g7, .ref g8, .ref g9, .ref g10, .ref g11, .ref g12])), (g1, .inr (10, [.int 0, .int 0, .int 0, .ref t3, .ref t4, .ref t5, .ref t6, .int 0, .int 0, .ref t9, .ref t10, .int 0, .ref t12, .ref t13, .ref t14, .ref t15, .int 0, .ref t17, .ref t18, .ref t19]))] sz) [(g, .inr (11, [.ref g0, .ref g1, .ref g2, .int 0, .ref g4, .ref g5, .ref g6, .ref g7, .ref g8, .ref g9, .ref g10, .ref g11, .ref g12])), (g1, .inr (10, [.int 0, .int 0, .int 0, .ref t3, .ref t4, .ref t5, .ref t6, .int 0, .int 0, .ref t9, .ref t10, .int 0, .ref t12, .ref t13, .ref t14, .ref t15, .int 0, .ref t17, .ref t18, .ref t19]))] tZ) (va_A [(g, .inr (11, [.ref g0, .ref g1, .ref g2, .int 0, .ref g4, .ref g5, .ref g6, .ref g7, .ref g8, .ref g9, .ref g10, .ref g11, .ref g12])), (g1, .inr (10, [.int 0, .int 0, .int 0, .ref t3, .ref t4, .ref t5, .ref t6, .int 0, .int 0, .ref t9, .ref t10, .int 0, .ref t12, .ref t13, .ref t14, .ref t15, .int 0, .ref t17, .ref t18, .ref t19]))] sz)) 0 0 (va_A [(g, .inr (11, [.ref g0, .ref g1, .ref g2, .int 0, .ref g4, .ref g5, .ref g6, .ref g7, .ref g8, .ref g9, .ref g10, .ref g11, .ref g12])), (g1, .inr (10, [.int 0, .int 0, .int 0, .ref t3, .ref t4, .ref t5, .ref t6, .int 0, .int 0, .ref t9, .ref t10, .int 0, .ref t12, .ref t13, .ref t14, .ref t15, .int 0, .ref t17, .ref t18, .ref t19]))] sz) := by
  refine Met.ofW (cc := cX11_isGate) (maxL := 2) (ret := (some .boolean)) (by decide +kernel) rfl ?_
  intro p e s m args below meth c s₁ B hml hv
  obtain ⟨rfl, hsz, hP, hK, hD0, hN⟩ := hv
  have hx := B.exec
  have hb := B.bytes
  have hr := B.returns
  have hts : ∀ w ∈ TT, w.before _ s = true := fun w h => atoms_spec (ws := ww yX11_isGate cX11_isGate 2 (some .boolean)) B.pre w (List.mem_cons_of_mem _ h)
  have hown : s.vm.findClass RX11 = some m.cls := findClass_of_methodNamed B.named
  have hlocks := B.notSynchronized
  subst hsz
  have hD := hD0.self (sz := s.heap.size)
  generalize hAe : va_A [(g, .inr (11, [.ref g0, .ref g1, .ref g2, .int 0, .ref g4, .ref g5, .ref g6, .ref g7, .ref g8, .ref g9, .ref g10, .ref g11, .ref g12])), (g1, .inr (10, [.int 0, .int 0, .int 0, .ref t3, .ref t4, .ref t5, .ref t6, .int 0, .int 0, .ref t9, .ref t10, .int 0, .ref t12, .ref t13, .ref t14, .ref t15, .int 0, .ref t17, .ref t18, .ref t19]))] s.heap.size = A at hD ⊢
  have hA : ∀ q : Nat, s.heap.size ≤ q → A q := fun q h => by rw [← hAe]; exact Or.inr h
  have hS : va_S A s.heap s.heap [] := va_S.rf
  have hl := lv_entry ([.ref g, .int p0]) (n := 2) (Nat.le_of_ble_eq_true rfl)
  rw [lg_entry_eq]
  generalize (lg_sl ([.ref g, .int p0]) ++ List.replicate (2 - (lg_sl ([.ref g, .int p0])).length) Slot.unset).toArray = ls at hl ⊢
  have hl : lv_has ls 2 [(0, .ref g), (1, .int p0)] := hl
  refine lv_iload_n hx hb dX11_isGate_0 rfl (lv_at hl 1 rfl) ?_
  refine lv_if_lt (tgt := 19) hx hb dX11_isGate_1 (by decide) (fun h_1 => ?_) (fun h_1 => ?_)
  · skip
    have zh_1 : p0.toInt < 0 := z_lt h_1
    refine lv_iconst (v := 0) hx hb dX11_isGate_19 (by decide) ?_
    have hP9 := hP.sub (ws' := [(g, .inr (11, [.ref g0, .ref g1, .ref g2, .int 0, .ref g4, .ref g5, .ref g6, .ref g7, .ref g8, .ref g9, .ref g10, .ref g11, .ref g12])), (g1, .inr (10, [.int 0, .int 0, .int 0, .ref t3, .ref t4, .ref t5, .ref t6, .int 0, .int 0, .ref t9, .ref t10, .int 0, .ref t12, .ref t13, .ref t14, .ref t15, .int 0, .ref t17, .ref t18, .ref t19]))]) [0, 1] rfl
    have hD9 := hD.sub (ws' := [(g, .inr (11, [.ref g0, .ref g1, .ref g2, .int 0, .ref g4, .ref g5, .ref g6, .ref g7, .ref g8, .ref g9, .ref g10, .ref g11, .ref g12])), (g1, .inr (10, [.int 0, .int 0, .int 0, .ref t3, .ref t4, .ref t5, .ref t6, .int 0, .int 0, .ref t9, .ref t10, .int 0, .ref t12, .ref t13, .ref t14, .ref t15, .int 0, .ref t17, .ref t18, .ref t19]))]) [0, 1] (by decide) rfl
    exact W.zret (v := 0) hx hb hr (by decide) (fun tZ ht hW => ⟨⟨0, (), rfl, rfl, by rw [ht]; exact hP9, va_K.moved hW.alike hK, hD9⟩, hS.F ht⟩) hS.2.2 dX11_isGate_20
  · skip
    have zh_1 : 0 ≤ p0.toInt := z_nlt h_1
    refine lv_iload_n hx hb dX11_isGate_4 rfl (lv_at hl 1 rfl) ?_
    refine lv_aload_n hx hb dX11_isGate_5 rfl (lv_at hl 0 rfl) ?_
    refine va_get (D := D) (ci := 11) (v := .ref g1) (C := RX11) (T := TX11) (N := 13) hx hb hts iT_X11 hown hK hP 0 rfl rfl 1 (by decide) (hts _ tw_2_171) (fun _ h9 => h9) rfl dX11_isGate_6 ?_
    refine va_get (D := D) (ci := 10) (v := .int 0) (C := RX10) (T := TX10) (N := 20) hx hb hts iT_X10 hown hK hP 1 rfl rfl 8 (by decide) (hts _ tw_1_108) (fun _ h9 => h9) rfl dX11_isGate_9 ?_
    refine lv_icmp_ge (tgt := 19) hx hb dX11_isGate_12 (by decide) (fun h_2 => ?_) (fun h_2 => ?_)
    · skip
      have zh_2 : 0 ≤ p0.toInt := z_le h_2
      refine lv_iconst (v := 0) hx hb dX11_isGate_19 (by decide) ?_
      have hP9 := hP.sub (ws' := [(g, .inr (11, [.ref g0, .ref g1, .ref g2, .int 0, .ref g4, .ref g5, .ref g6, .ref g7, .ref g8, .ref g9, .ref g10, .ref g11, .ref g12])), (g1, .inr (10, [.int 0, .int 0, .int 0, .ref t3, .ref t4, .ref t5, .ref t6, .int 0, .int 0, .ref t9, .ref t10, .int 0, .ref t12, .ref t13, .ref t14, .ref t15, .int 0, .ref t17, .ref t18, .ref t19]))]) [0, 1] rfl
      have hD9 := hD.sub (ws' := [(g, .inr (11, [.ref g0, .ref g1, .ref g2, .int 0, .ref g4, .ref g5, .ref g6, .ref g7, .ref g8, .ref g9, .ref g10, .ref g11, .ref g12])), (g1, .inr (10, [.int 0, .int 0, .int 0, .ref t3, .ref t4, .ref t5, .ref t6, .int 0, .int 0, .ref t9, .ref t10, .int 0, .ref t12, .ref t13, .ref t14, .ref t15, .int 0, .ref t17, .ref t18, .ref t19]))]) [0, 1] (by decide) rfl
      exact W.zret (v := 0) hx hb hr (by decide) (fun tZ ht hW => ⟨⟨0, (), rfl, rfl, by rw [ht]; exact hP9, va_K.moved hW.alike hK, hD9⟩, hS.F ht⟩) hS.2.2 dX11_isGate_20
    · skip
      have zh_2 : p0.toInt < 0 := z_nle h_2
      exact False.elim (by omega)
set_option maxHeartbeats 4000000 in
set_option maxRecDepth 100000 in
theorem c_X11_isHouse (l : Launch) (D : va_G) (k : Nat → ClassId) (g : Nat) (g0 : Nat) (g1 : Nat) (g2 : Nat) (g4 : Nat) (g5 : Nat) (g6 : Nat) (g7 : Nat) (g8 : Nat) (g9 : Nat) (g10 : Nat) (g11 : Nat) (g12 : Nat) (t3 : Nat) (t4 : Nat) (t5 : Nat) (t6 : Nat) (t9 : Nat) (t10 : Nat) (t12 : Nat) (t13 : Nat) (t14 : Nat) (t15 : Nat) (t17 : Nat) (t18 : Nat) (t19 : Nat) (p0 : Int32) (sz : Nat) : Met l yX11_isHouse (ww yX11_isHouse cX11_isHouse 2 (some .boolean)) ({ frames := 0, cells := 0, slots := 0, locals := 0 }) (Pre0 D k [(g, .inr (11, [.ref g0, .ref g1, .ref g2, .int 0, .ref g4, .ref g5, .ref g6, .ref g7, .ref g8, .ref g9, .ref g10, .ref g11, .ref g12])), (g1, .inr (10, [.int 0, .int 0, .int 0, .ref t3, .ref t4, .ref t5, .ref t6, .int 0, .int 0, .ref t9, .ref t10, .int 0, .ref t12, .ref t13, .ref t14, .ref t15, .int 0, .ref t17, .ref t18, .ref t19]))] sz [.ref g, .int p0]) (va_Qi (fun (r : Int32) (_ : Unit) => r = 0) (fun (_ : Unit) tZ => Bw D k (va_A [(g, .inr (11, [.ref g0, .ref g1, .ref g2, .int 0, .ref g4, .ref g5, .ref g6, .ref g7, .ref g8, .ref g9, .ref g10, .ref g11, .ref g12])), (g1, .inr (10, [.int 0, .int 0, .int 0, .ref t3, .ref t4, .ref t5, .ref t6, .int 0, .int 0, .ref t9, .ref t10, .int 0, .ref t12, .ref t13, .ref t14, .ref t15, .int 0, .ref t17, .ref t18, .ref t19]))] sz) [(g, .inr (11, [.ref g0, .ref g1, .ref g2, .int 0, .ref g4, .ref g5, .ref g6, .ref g7, .ref g8, .ref g9, .ref g10, .ref g11, .ref g12])), (g1, .inr (10, [.int 0, .int 0, .int 0, .ref t3, .ref t4, .ref t5, .ref t6, .int 0, .int 0, .ref t9, .ref t10, .int 0, .ref t12, .ref t13, .ref t14, .ref t15, .int 0, .ref t17, .ref t18, .ref t19]))] tZ) (va_A [(g, .inr (11, [.ref g0, .ref g1, .ref g2, .int 0, .ref g4, .ref g5, .ref g6, .ref g7, .ref g8, .ref g9, .ref g10, .ref g11, .ref g12])), (g1, .inr (10, [.int 0, .int 0, .int 0, .ref t3, .ref t4, .ref t5, .ref t6, .int 0, .int 0, .ref t9, .ref t10, .int 0, .ref t12, .ref t13, .ref t14, .ref t15, .int 0, .ref t17, .ref t18, .ref t19]))] sz)) 0 0 (va_A [(g, .inr (11, [.ref g0, .ref g1, .ref g2, .int 0, .ref g4, .ref g5, .ref g6, .ref g7, .ref g8, .ref g9, .ref g10, .ref g11, .ref g12])), (g1, .inr (10, [.int 0, .int 0, .int 0, .ref t3, .ref t4, .ref t5, .ref t6, .int 0, .int 0, .ref t9, .ref t10, .int 0, .ref t12, .ref t13, .ref t14, .ref t15, .int 0, .ref t17, .ref t18, .ref t19]))] sz) := by
  refine Met.ofW (cc := cX11_isHouse) (maxL := 2) (ret := (some .boolean)) (by decide +kernel) rfl ?_
  intro p e s m args below meth c s₁ B hml hv
  obtain ⟨rfl, hsz, hP, hK, hD0, hN⟩ := hv
  have hx := B.exec
  have hb := B.bytes
  have hr := B.returns
  have hts : ∀ w ∈ TT, w.before _ s = true := fun w h => atoms_spec (ws := ww yX11_isHouse cX11_isHouse 2 (some .boolean)) B.pre w (List.mem_cons_of_mem _ h)
  have hown : s.vm.findClass RX11 = some m.cls := findClass_of_methodNamed B.named
  have hlocks := B.notSynchronized
  subst hsz
  have hD := hD0.self (sz := s.heap.size)
  generalize hAe : va_A [(g, .inr (11, [.ref g0, .ref g1, .ref g2, .int 0, .ref g4, .ref g5, .ref g6, .ref g7, .ref g8, .ref g9, .ref g10, .ref g11, .ref g12])), (g1, .inr (10, [.int 0, .int 0, .int 0, .ref t3, .ref t4, .ref t5, .ref t6, .int 0, .int 0, .ref t9, .ref t10, .int 0, .ref t12, .ref t13, .ref t14, .ref t15, .int 0, .ref t17, .ref t18, .ref t19]))] s.heap.size = A at hD ⊢
  have hA : ∀ q : Nat, s.heap.size ≤ q → A q := fun q h => by rw [← hAe]; exact Or.inr h
  have hS : va_S A s.heap s.heap [] := va_S.rf
  have hl := lv_entry ([.ref g, .int p0]) (n := 2) (Nat.le_of_ble_eq_true rfl)
  rw [lg_entry_eq]
  generalize (lg_sl ([.ref g, .int p0]) ++ List.replicate (2 - (lg_sl ([.ref g, .int p0])).length) Slot.unset).toArray = ls at hl ⊢
  have hl : lv_has ls 2 [(0, .ref g), (1, .int p0)] := hl
  refine lv_iload_n hx hb dX11_isHouse_0 rfl (lv_at hl 1 rfl) ?_
  refine lv_if_lt (tgt := 19) hx hb dX11_isHouse_1 (by decide) (fun h_1 => ?_) (fun h_1 => ?_)
  · skip
    have zh_1 : p0.toInt < 0 := z_lt h_1
    refine lv_iconst (v := 0) hx hb dX11_isHouse_19 (by decide) ?_
    have hP9 := hP.sub (ws' := [(g, .inr (11, [.ref g0, .ref g1, .ref g2, .int 0, .ref g4, .ref g5, .ref g6, .ref g7, .ref g8, .ref g9, .ref g10, .ref g11, .ref g12])), (g1, .inr (10, [.int 0, .int 0, .int 0, .ref t3, .ref t4, .ref t5, .ref t6, .int 0, .int 0, .ref t9, .ref t10, .int 0, .ref t12, .ref t13, .ref t14, .ref t15, .int 0, .ref t17, .ref t18, .ref t19]))]) [0, 1] rfl
    have hD9 := hD.sub (ws' := [(g, .inr (11, [.ref g0, .ref g1, .ref g2, .int 0, .ref g4, .ref g5, .ref g6, .ref g7, .ref g8, .ref g9, .ref g10, .ref g11, .ref g12])), (g1, .inr (10, [.int 0, .int 0, .int 0, .ref t3, .ref t4, .ref t5, .ref t6, .int 0, .int 0, .ref t9, .ref t10, .int 0, .ref t12, .ref t13, .ref t14, .ref t15, .int 0, .ref t17, .ref t18, .ref t19]))]) [0, 1] (by decide) rfl
    exact W.zret (v := 0) hx hb hr (by decide) (fun tZ ht hW => ⟨⟨0, (), rfl, rfl, by rw [ht]; exact hP9, va_K.moved hW.alike hK, hD9⟩, hS.F ht⟩) hS.2.2 dX11_isHouse_20
  · skip
    have zh_1 : 0 ≤ p0.toInt := z_nlt h_1
    refine lv_iload_n hx hb dX11_isHouse_4 rfl (lv_at hl 1 rfl) ?_
    refine lv_aload_n hx hb dX11_isHouse_5 rfl (lv_at hl 0 rfl) ?_
    refine va_get (D := D) (ci := 11) (v := .ref g1) (C := RX11) (T := TX11) (N := 13) hx hb hts iT_X11 hown hK hP 0 rfl rfl 1 (by decide) (hts _ tw_2_171) (fun _ h9 => h9) rfl dX11_isHouse_6 ?_
    refine va_get (D := D) (ci := 10) (v := .int 0) (C := RX10) (T := TX10) (N := 20) hx hb hts iT_X10 hown hK hP 1 rfl rfl 11 (by decide) (hts _ tw_1_124) (fun _ h9 => h9) rfl dX11_isHouse_9 ?_
    refine lv_icmp_ge (tgt := 19) hx hb dX11_isHouse_12 (by decide) (fun h_2 => ?_) (fun h_2 => ?_)
    · skip
      have zh_2 : 0 ≤ p0.toInt := z_le h_2
      refine lv_iconst (v := 0) hx hb dX11_isHouse_19 (by decide) ?_
      have hP9 := hP.sub (ws' := [(g, .inr (11, [.ref g0, .ref g1, .ref g2, .int 0, .ref g4, .ref g5, .ref g6, .ref g7, .ref g8, .ref g9, .ref g10, .ref g11, .ref g12])), (g1, .inr (10, [.int 0, .int 0, .int 0, .ref t3, .ref t4, .ref t5, .ref t6, .int 0, .int 0, .ref t9, .ref t10, .int 0, .ref t12, .ref t13, .ref t14, .ref t15, .int 0, .ref t17, .ref t18, .ref t19]))]) [0, 1] rfl
      have hD9 := hD.sub (ws' := [(g, .inr (11, [.ref g0, .ref g1, .ref g2, .int 0, .ref g4, .ref g5, .ref g6, .ref g7, .ref g8, .ref g9, .ref g10, .ref g11, .ref g12])), (g1, .inr (10, [.int 0, .int 0, .int 0, .ref t3, .ref t4, .ref t5, .ref t6, .int 0, .int 0, .ref t9, .ref t10, .int 0, .ref t12, .ref t13, .ref t14, .ref t15, .int 0, .ref t17, .ref t18, .ref t19]))]) [0, 1] (by decide) rfl
      exact W.zret (v := 0) hx hb hr (by decide) (fun tZ ht hW => ⟨⟨0, (), rfl, rfl, by rw [ht]; exact hP9, va_K.moved hW.alike hK, hD9⟩, hS.F ht⟩) hS.2.2 dX11_isHouse_20
    · skip
      have zh_2 : p0.toInt < 0 := z_nle h_2
      exact False.elim (by omega)
set_option maxHeartbeats 4000000 in
set_option maxRecDepth 100000 in
theorem c_X11_isSeed (l : Launch) (D : va_G) (k : Nat → ClassId) (p0 : Int32) (sz : Nat) : Met l yX11_isSeed (ww yX11_isSeed cX11_isSeed 1 (some .boolean)) ({ frames := 0, cells := 0, slots := 0, locals := 0 }) (Pre0 D k [] sz [.int p0]) (va_Qi (fun (r : Int32) (_ : Unit) => r.toInt = 0 ∨ r.toInt = 1) (fun (_ : Unit) tZ => Bw D k (va_A [] sz) [] tZ) (va_A [] sz)) 0 0 (va_A [] sz) := by
  refine Met.ofW (cc := cX11_isSeed) (maxL := 1) (ret := (some .boolean)) (by decide +kernel) rfl ?_
  intro p e s m args below meth c s₁ B hml hv
  obtain ⟨rfl, hsz, hP, hK, hD0, hN⟩ := hv
  have hx := B.exec
  have hb := B.bytes
  have hr := B.returns
  have hts : ∀ w ∈ TT, w.before _ s = true := fun w h => atoms_spec (ws := ww yX11_isSeed cX11_isSeed 1 (some .boolean)) B.pre w (List.mem_cons_of_mem _ h)
  have hown : s.vm.findClass RX11 = some m.cls := findClass_of_methodNamed B.named
  have hlocks := B.notSynchronized
  subst hsz
  have hD := hD0.self (sz := s.heap.size)
  generalize hAe : va_A [] s.heap.size = A at hD ⊢
  have hA : ∀ q : Nat, s.heap.size ≤ q → A q := fun q h => by rw [← hAe]; exact Or.inr h
  have hS : va_S A s.heap s.heap [] := va_S.rf
  have hl := lv_entry ([.int p0]) (n := 1) (Nat.le_of_ble_eq_true rfl)
  rw [lg_entry_eq]
  generalize (lg_sl ([.int p0]) ++ List.replicate (1 - (lg_sl ([.int p0])).length) Slot.unset).toArray = ls at hl ⊢
  have hl : lv_has ls 1 [(0, .int p0)] := hl
  refine lv_iload_n hx hb dX11_isSeed_0 rfl (lv_at hl 0 rfl) ?_
  refine lv_if_lt (tgt := 15) hx hb dX11_isSeed_1 (by decide) (fun h_1 => ?_) (fun h_1 => ?_)
  · skip
    have zh_1 : p0.toInt < 0 := z_lt h_1
    refine lv_iconst (v := 0) hx hb dX11_isSeed_15 (by decide) ?_
    have hP9 := hP.sub (ws' := []) [] rfl
    have hD9 := hD.sub (ws' := []) [] (by decide) rfl
    exact W.zret (v := 0) hx hb hr (by decide) (fun tZ ht hW => ⟨⟨0, (), rfl, (show 0 = 0 ∨ 0 = 1 from by omega), by rw [ht]; exact hP9, va_K.moved hW.alike hK, hD9⟩, hS.F ht⟩) hS.2.2 dX11_isSeed_16
  · skip
    have zh_1 : 0 ≤ p0.toInt := z_nlt h_1
    refine lv_iload_n hx hb dX11_isSeed_4 rfl (lv_at hl 0 rfl) ?_
    refine lv_ldcw (v := 2000000000) hx hb hown (hts _ tw_5_209) dX11_isSeed_5 ?_
    refine lv_icmp_gt (tgt := 15) hx hb dX11_isSeed_8 (by decide) (fun h_2 => ?_) (fun h_2 => ?_)
    · skip
      have zh_2 : 2000000000 < p0.toInt := z_lt h_2
      refine lv_iconst (v := 0) hx hb dX11_isSeed_15 (by decide) ?_
      have hP9 := hP.sub (ws' := []) [] rfl
      have hD9 := hD.sub (ws' := []) [] (by decide) rfl
      exact W.zret (v := 0) hx hb hr (by decide) (fun tZ ht hW => ⟨⟨0, (), rfl, (show 0 = 0 ∨ 0 = 1 from by omega), by rw [ht]; exact hP9, va_K.moved hW.alike hK, hD9⟩, hS.F ht⟩) hS.2.2 dX11_isSeed_16
    · skip
      have zh_2 : p0.toInt ≤ 2000000000 := z_nlt h_2
      refine lv_iconst (v := 1) hx hb dX11_isSeed_11 (by decide) ?_
      refine lv_goto (tgt := 16) hx hb dX11_isSeed_12 (by decide) ?_
      have hP9 := hP.sub (ws' := []) [] rfl
      have hD9 := hD.sub (ws' := []) [] (by decide) rfl
      exact W.zret (v := 1) hx hb hr (by decide) (fun tZ ht hW => ⟨⟨1, (), rfl, (show 1 = 0 ∨ 1 = 1 from by omega), by rw [ht]; exact hP9, va_K.moved hW.alike hK, hD9⟩, hS.F ht⟩) hS.2.2 dX11_isSeed_16
set_option maxHeartbeats 4000000 in
set_option maxRecDepth 100000 in
theorem c_X8_isSlot (l : Launch) (D : va_G) (k : Nat → ClassId) (p0 : Int32) (sz : Nat) : Met l yX8_isSlot (ww yX8_isSlot cX8_isSlot 1 (some .boolean)) ({ frames := 0, cells := 0, slots := 0, locals := 0 }) (Pre0 D k [] sz [.int p0]) (va_Qi (fun (r : Int32) (_ : Unit) => (r.toInt = 1 ∧ 0 ≤ p0.toInt ∧ p0.toInt < 4) ∨ (r.toInt = 0 ∧ (p0.toInt < 0 ∨ 4 ≤ p0.toInt))) (fun (_ : Unit) tZ => Bw D k (va_A [] sz) [] tZ) (va_A [] sz)) 0 0 (va_A [] sz) := by
  refine Met.ofW (cc := cX8_isSlot) (maxL := 1) (ret := (some .boolean)) (by decide +kernel) rfl ?_
  intro p e s m args below meth c s₁ B hml hv
  obtain ⟨rfl, hsz, hP, hK, hD0, hN⟩ := hv
  have hx := B.exec
  have hb := B.bytes
  have hr := B.returns
  have hts : ∀ w ∈ TT, w.before _ s = true := fun w h => atoms_spec (ws := ww yX8_isSlot cX8_isSlot 1 (some .boolean)) B.pre w (List.mem_cons_of_mem _ h)
  have hown : s.vm.findClass RX8 = some m.cls := findClass_of_methodNamed B.named
  have hlocks := B.notSynchronized
  subst hsz
  have hD := hD0.self (sz := s.heap.size)
  generalize hAe : va_A [] s.heap.size = A at hD ⊢
  have hA : ∀ q : Nat, s.heap.size ≤ q → A q := fun q h => by rw [← hAe]; exact Or.inr h
  have hS : va_S A s.heap s.heap [] := va_S.rf
  have hl := lv_entry ([.int p0]) (n := 1) (Nat.le_of_ble_eq_true rfl)
  rw [lg_entry_eq]
  generalize (lg_sl ([.int p0]) ++ List.replicate (1 - (lg_sl ([.int p0])).length) Slot.unset).toArray = ls at hl ⊢
  have hl : lv_has ls 1 [(0, .int p0)] := hl
  refine lv_iload_n hx hb dX8_isSlot_0 rfl (lv_at hl 0 rfl) ?_
  refine lv_if_lt (tgt := 13) hx hb dX8_isSlot_1 (by decide) (fun h_1 => ?_) (fun h_1 => ?_)
  · skip
    have zh_1 : p0.toInt < 0 := z_lt h_1
    refine lv_iconst (v := 0) hx hb dX8_isSlot_13 (by decide) ?_
    have hP9 := hP.sub (ws' := []) [] rfl
    have hD9 := hD.sub (ws' := []) [] (by decide) rfl
    exact W.zret (v := 0) hx hb hr (by decide) (fun tZ ht hW => ⟨⟨0, (), rfl, (show (0 = 1 ∧ 0 ≤ p0.toInt ∧ p0.toInt < 4) ∨ (0 = 0 ∧ (p0.toInt < 0 ∨ 4 ≤ p0.toInt)) from by omega), by rw [ht]; exact hP9, va_K.moved hW.alike hK, hD9⟩, hS.F ht⟩) hS.2.2 dX8_isSlot_14
  · skip
    have zh_1 : 0 ≤ p0.toInt := z_nlt h_1
    refine lv_iload_n hx hb dX8_isSlot_4 rfl (lv_at hl 0 rfl) ?_
    refine lv_iconst (v := 4) hx hb dX8_isSlot_5 (by decide) ?_
    refine lv_icmp_ge (tgt := 13) hx hb dX8_isSlot_6 (by decide) (fun h_2 => ?_) (fun h_2 => ?_)
    · skip
      have zh_2 : 4 ≤ p0.toInt := z_le h_2
      refine lv_iconst (v := 0) hx hb dX8_isSlot_13 (by decide) ?_
      have hP9 := hP.sub (ws' := []) [] rfl
      have hD9 := hD.sub (ws' := []) [] (by decide) rfl
      exact W.zret (v := 0) hx hb hr (by decide) (fun tZ ht hW => ⟨⟨0, (), rfl, (show (0 = 1 ∧ 0 ≤ p0.toInt ∧ p0.toInt < 4) ∨ (0 = 0 ∧ (p0.toInt < 0 ∨ 4 ≤ p0.toInt)) from by omega), by rw [ht]; exact hP9, va_K.moved hW.alike hK, hD9⟩, hS.F ht⟩) hS.2.2 dX8_isSlot_14
    · skip
      have zh_2 : p0.toInt < 4 := z_nle h_2
      refine lv_iconst (v := 1) hx hb dX8_isSlot_9 (by decide) ?_
      refine lv_goto (tgt := 14) hx hb dX8_isSlot_10 (by decide) ?_
      have hP9 := hP.sub (ws' := []) [] rfl
      have hD9 := hD.sub (ws' := []) [] (by decide) rfl
      exact W.zret (v := 1) hx hb hr (by decide) (fun tZ ht hW => ⟨⟨1, (), rfl, (show (1 = 1 ∧ 0 ≤ p0.toInt ∧ p0.toInt < 4) ∨ (1 = 0 ∧ (p0.toInt < 0 ∨ 4 ≤ p0.toInt)) from by omega), by rw [ht]; exact hP9, va_K.moved hW.alike hK, hD9⟩, hS.F ht⟩) hS.2.2 dX8_isSlot_14
set_option maxHeartbeats 4000000 in
set_option maxRecDepth 100000 in
theorem c_X11_refusedSlot (l : Launch) (D : va_G) (k : Nat → ClassId) (g : Nat) (g0 : Nat) (g1 : Nat) (g2 : Nat) (g4 : Nat) (g5 : Nat) (g6 : Nat) (g7 : Nat) (g8 : Nat) (g9 : Nat) (g10 : Nat) (g11 : Nat) (g12 : Nat) (t3 : Nat) (t4 : Nat) (t5 : Nat) (t6 : Nat) (t9 : Nat) (t10 : Nat) (t12 : Nat) (t13 : Nat) (t14 : Nat) (t15 : Nat) (t17 : Nat) (t18 : Nat) (t19 : Nat) (p0 : Int32) (sz : Nat) : Met l yX11_refusedSlot (ww yX11_refusedSlot cX11_refusedSlot 2 (some .int)) ({ frames := 1, cells := 0, slots := 0, locals := 20 }) (Pre0 D k [(g, .inr (11, [.ref g0, .ref g1, .ref g2, .int 0, .ref g4, .ref g5, .ref g6, .ref g7, .ref g8, .ref g9, .ref g10, .ref g11, .ref g12])), (g1, .inr (10, [.int 0, .int 0, .int 0, .ref t3, .ref t4, .ref t5, .ref t6, .int 0, .int 0, .ref t9, .ref t10, .int 0, .ref t12, .ref t13, .ref t14, .ref t15, .int 0, .ref t17, .ref t18, .ref t19]))] sz [.ref g, .int p0]) (va_Qi (fun (r : Int32) (_ : Unit) => r = (-2)) (fun (_ : Unit) tZ => Bw D k (va_A [(g, .inr (11, [.ref g0, .ref g1, .ref g2, .int 0, .ref g4, .ref g5, .ref g6, .ref g7, .ref g8, .ref g9, .ref g10, .ref g11, .ref g12])), (g1, .inr (10, [.int 0, .int 0, .int 0, .ref t3, .ref t4, .ref t5, .ref t6, .int 0, .int 0, .ref t9, .ref t10, .int 0, .ref t12, .ref t13, .ref t14, .ref t15, .int 0, .ref t17, .ref t18, .ref t19]))] sz) [(g, .inr (11, [.ref g0, .ref g1, .ref g2, .int 0, .ref g4, .ref g5, .ref g6, .ref g7, .ref g8, .ref g9, .ref g10, .ref g11, .ref g12])), (g1, .inr (10, [.int 0, .int 0, .int 0, .ref t3, .ref t4, .ref t5, .ref t6, .int 0, .int 0, .ref t9, .ref t10, .int 0, .ref t12, .ref t13, .ref t14, .ref t15, .int 0, .ref t17, .ref t18, .ref t19]))] tZ) (va_A [(g, .inr (11, [.ref g0, .ref g1, .ref g2, .int 0, .ref g4, .ref g5, .ref g6, .ref g7, .ref g8, .ref g9, .ref g10, .ref g11, .ref g12])), (g1, .inr (10, [.int 0, .int 0, .int 0, .ref t3, .ref t4, .ref t5, .ref t6, .int 0, .int 0, .ref t9, .ref t10, .int 0, .ref t12, .ref t13, .ref t14, .ref t15, .int 0, .ref t17, .ref t18, .ref t19]))] sz)) 0 0 (va_A [(g, .inr (11, [.ref g0, .ref g1, .ref g2, .int 0, .ref g4, .ref g5, .ref g6, .ref g7, .ref g8, .ref g9, .ref g10, .ref g11, .ref g12])), (g1, .inr (10, [.int 0, .int 0, .int 0, .ref t3, .ref t4, .ref t5, .ref t6, .int 0, .int 0, .ref t9, .ref t10, .int 0, .ref t12, .ref t13, .ref t14, .ref t15, .int 0, .ref t17, .ref t18, .ref t19]))] sz) := by
  refine Met.ofW (cc := cX11_refusedSlot) (maxL := 2) (ret := (some .int)) (by decide +kernel) rfl ?_
  intro p e s m args below meth c s₁ B hml hv
  obtain ⟨rfl, hsz, hP, hK, hD0, hN⟩ := hv
  have hx := B.exec
  have hb := B.bytes
  have hr := B.returns
  have hts : ∀ w ∈ TT, w.before _ s = true := fun w h => atoms_spec (ws := ww yX11_refusedSlot cX11_refusedSlot 2 (some .int)) B.pre w (List.mem_cons_of_mem _ h)
  have hown : s.vm.findClass RX11 = some m.cls := findClass_of_methodNamed B.named
  have hlocks := B.notSynchronized
  subst hsz
  have hD := hD0.self (sz := s.heap.size)
  generalize hAe : va_A [(g, .inr (11, [.ref g0, .ref g1, .ref g2, .int 0, .ref g4, .ref g5, .ref g6, .ref g7, .ref g8, .ref g9, .ref g10, .ref g11, .ref g12])), (g1, .inr (10, [.int 0, .int 0, .int 0, .ref t3, .ref t4, .ref t5, .ref t6, .int 0, .int 0, .ref t9, .ref t10, .int 0, .ref t12, .ref t13, .ref t14, .ref t15, .int 0, .ref t17, .ref t18, .ref t19]))] s.heap.size = A at hD ⊢
  have hA : ∀ q : Nat, s.heap.size ≤ q → A q := fun q h => by rw [← hAe]; exact Or.inr h
  have hS : va_S A s.heap s.heap [] := va_S.rf
  have hl := lv_entry ([.ref g, .int p0]) (n := 2) (Nat.le_of_ble_eq_true rfl)
  rw [lg_entry_eq]
  generalize (lg_sl ([.ref g, .int p0]) ++ List.replicate (2 - (lg_sl ([.ref g, .int p0])).length) Slot.unset).toArray = ls at hl ⊢
  have hl : lv_has ls 2 [(0, .ref g), (1, .int p0)] := hl
  refine lv_iload_n hx hb dX11_refusedSlot_0 rfl (lv_at hl 1 rfl) ?_
  have hPc := hP.sub (ws' := []) [] rfl
  have hDc := hD.sub (ws' := []) [] (by decide) rfl
  have hFc := va_free (wc := []) hD hS hA [] rfl
  refine va_calli (va_runS (As := [.int p0]) (rest := []) ⟨hx, hb, hml, hown, hts⟩ (c_X8_isSlot l D k p0 s.heap.size) (va_cwS 1 hts (gS tw_4_213 tw_4_214 tw_1_5 tw_4_215) rfl rfl rfl hdS_X8_isSlot ⟨Nat.le_of_ble_eq_true rfl, Nat.le_of_ble_eq_true rfl⟩) (cz_S hK hPc hDc hN [.int p0]) rfl rfl hl.1 rfl (lv_room (Nat.le_of_ble_eq_true rfl)) dX11_refusedSlot_1 ⟨Nat.le_of_ble_eq_true rfl, Nat.le_of_ble_eq_true rfl⟩) hS (fun q _ h => hFc q h) hFc (fun r_1 uZ tZ H1 locs ht hvm hw hB hz1 hk1 hS => ?_)
  obtain ⟨hP1, hK1, hD1⟩ := hB
  rw [ht] at hP1
  obtain ⟨hP, hD⟩ := va_join (wr := [(g, .inr (11, [.ref g0, .ref g1, .ref g2, .int 0, .ref g4, .ref g5, .ref g6, .ref g7, .ref g8, .ref g9, .ref g10, .ref g11, .ref g12])), (g1, .inr (10, [.int 0, .int 0, .int 0, .ref t3, .ref t4, .ref t5, .ref t6, .int 0, .int 0, .ref t9, .ref t10, .int 0, .ref t12, .ref t13, .ref t14, .ref t15, .int 0, .ref t17, .ref t18, .ref t19]))]) (w1 := []) hP hD [] [0, 1] rfl rfl (by decide) (by decide) hk1 hFc hP1 hD1
  clear hK1 hP1 hD1 hPc hDc hFc
  clear hk1 hz1 ht hvm
  have hP : va_P D vwCl [(g, .inr (11, [.ref g0, .ref g1, .ref g2, .int 0, .ref g4, .ref g5, .ref g6, .ref g7, .ref g8, .ref g9, .ref g10, .ref g11, .ref g12])), (g1, .inr (10, [.int 0, .int 0, .int 0, .ref t3, .ref t4, .ref t5, .ref t6, .int 0, .int 0, .ref t9, .ref t10, .int 0, .ref t12, .ref t13, .ref t14, .ref t15, .int 0, .ref t17, .ref t18, .ref t19]))] H1 := hP
  have hD : va_D A [(g, .inr (11, [.ref g0, .ref g1, .ref g2, .int 0, .ref g4, .ref g5, .ref g6, .ref g7, .ref g8, .ref g9, .ref g10, .ref g11, .ref g12])), (g1, .inr (10, [.int 0, .int 0, .int 0, .ref t3, .ref t4, .ref t5, .ref t6, .int 0, .int 0, .ref t9, .ref t10, .int 0, .ref t12, .ref t13, .ref t14, .ref t15, .int 0, .ref t17, .ref t18, .ref t19]))] := hD
  generalize H1 = H at hP hS ⊢
  have hw_2 : (r_1.toInt = 1 ∧ 0 ≤ p0.toInt ∧ p0.toInt < 4) ∨ (r_1.toInt = 0 ∧ (p0.toInt < 0 ∨ 4 ≤ p0.toInt)) := hw
  clear hw
  refine lv_if_eq (tgt := 14) hx hb dX11_refusedSlot_4 (by decide) (fun h_3 => ?_) (fun h_3 => ?_)
  · skip
    have zh_3 : r_1.toInt = 0 := z_eq h_3
    refine lv_bipush (v := (-2)) hx hb dX11_refusedSlot_14 (by decide) ?_
    have hP9 := hP.sub (ws' := [(g, .inr (11, [.ref g0, .ref g1, .ref g2, .int 0, .ref g4, .ref g5, .ref g6, .ref g7, .ref g8, .ref g9, .ref g10, .ref g11, .ref g12])), (g1, .inr (10, [.int 0, .int 0, .int 0, .ref t3, .ref t4, .ref t5, .ref t6, .int 0, .int 0, .ref t9, .ref t10, .int 0, .ref t12, .ref t13, .ref t14, .ref t15, .int 0, .ref t17, .ref t18, .ref t19]))]) [0, 1] rfl
    have hD9 := hD.sub (ws' := [(g, .inr (11, [.ref g0, .ref g1, .ref g2, .int 0, .ref g4, .ref g5, .ref g6, .ref g7, .ref g8, .ref g9, .ref g10, .ref g11, .ref g12])), (g1, .inr (10, [.int 0, .int 0, .int 0, .ref t3, .ref t4, .ref t5, .ref t6, .int 0, .int 0, .ref t9, .ref t10, .int 0, .ref t12, .ref t13, .ref t14, .ref t15, .int 0, .ref t17, .ref t18, .ref t19]))]) [0, 1] (by decide) rfl
    exact W.iret (v := (-2)) hx hb hr (fun tZ ht hW => ⟨⟨(-2), (), rfl, rfl, by rw [ht]; exact hP9, va_K.moved hW.alike hK, hD9⟩, hS.F ht⟩) hS.2.2 dX11_refusedSlot_16
  · skip
    have zh_3 : ¬ r_1.toInt = 0 := z_ne h_3
    refine lv_aload_n hx hb dX11_refusedSlot_7 rfl (lv_at hl 0 rfl) ?_
    have hPc := hP.sub (ws' := [(g, .inr (11, [.ref g0, .ref g1, .ref g2, .int 0, .ref g4, .ref g5, .ref g6, .ref g7, .ref g8, .ref g9, .ref g10, .ref g11, .ref g12])), (g1, .inr (10, [.int 0, .int 0, .int 0, .ref t3, .ref t4, .ref t5, .ref t6, .int 0, .int 0, .ref t9, .ref t10, .int 0, .ref t12, .ref t13, .ref t14, .ref t15, .int 0, .ref t17, .ref t18, .ref t19]))]) [0, 1] rfl
    have hDc := hD.sub (ws' := [(g, .inr (11, [.ref g0, .ref g1, .ref g2, .int 0, .ref g4, .ref g5, .ref g6, .ref g7, .ref g8, .ref g9, .ref g10, .ref g11, .ref g12])), (g1, .inr (10, [.int 0, .int 0, .int 0, .ref t3, .ref t4, .ref t5, .ref t6, .int 0, .int 0, .ref t9, .ref t10, .int 0, .ref t12, .ref t13, .ref t14, .ref t15, .int 0, .ref t17, .ref t18, .ref t19]))]) [0, 1] (by decide) rfl
    have hFc := va_free (wc := [(g, .inr (11, [.ref g0, .ref g1, .ref g2, .int 0, .ref g4, .ref g5, .ref g6, .ref g7, .ref g8, .ref g9, .ref g10, .ref g11, .ref g12])), (g1, .inr (10, [.int 0, .int 0, .int 0, .ref t3, .ref t4, .ref t5, .ref t6, .int 0, .int 0, .ref t9, .ref t10, .int 0, .ref t12, .ref t13, .ref t14, .ref t15, .int 0, .ref t17, .ref t18, .ref t19]))]) hD hS hA [0, 1] rfl
    refine va_calli (va_runV (C := RX11) (As := []) (rest := []) ⟨hx, hb, hml, hown, hts⟩ (c_X11_hasNoTown l D k g g0 g1 g2 g4 g5 g6 g7 g8 g9 g10 g11 g12 t3 t4 t5 t6 t9 t10 t12 t13 t14 t15 t17 t18 t19 H.size) (cwV 0 hts (gV tw_3_235 tw_3_237 tw_p_23 tw_1_1 tw_3_238) rfl rfl rfl hdV_X11_hasNoTown ⟨Nat.le_of_ble_eq_true rfl, Nat.le_of_ble_eq_true rfl⟩) (cz_V hK hPc hDc hN (ci := 11) (q0 := 0) rfl rfl []) rfl rfl hl.1 rfl (lv_room (Nat.le_of_ble_eq_true rfl)) dX11_refusedSlot_8 ⟨Nat.le_of_ble_eq_true rfl, Nat.le_of_ble_eq_true rfl⟩) hS (fun q _ h => hFc q h) hFc (fun r_4 uZ tZ H1 locs ht hvm hw hB hz1 hk1 hS => ?_)
    obtain ⟨hP1, hK1, hD1⟩ := hB
    rw [ht] at hP1
    obtain ⟨hP, hD⟩ := va_join (wr := []) (w1 := [(g, .inr (11, [.ref g0, .ref g1, .ref g2, .int 0, .ref g4, .ref g5, .ref g6, .ref g7, .ref g8, .ref g9, .ref g10, .ref g11, .ref g12])), (g1, .inr (10, [.int 0, .int 0, .int 0, .ref t3, .ref t4, .ref t5, .ref t6, .int 0, .int 0, .ref t9, .ref t10, .int 0, .ref t12, .ref t13, .ref t14, .ref t15, .int 0, .ref t17, .ref t18, .ref t19]))]) hP hD [0, 1] [] rfl rfl (by decide) (by decide) hk1 hFc hP1 hD1
    clear hK1 hP1 hD1 hPc hDc hFc
    clear hk1 hz1 ht hvm
    have hP : va_P D vwCl [(g, .inr (11, [.ref g0, .ref g1, .ref g2, .int 0, .ref g4, .ref g5, .ref g6, .ref g7, .ref g8, .ref g9, .ref g10, .ref g11, .ref g12])), (g1, .inr (10, [.int 0, .int 0, .int 0, .ref t3, .ref t4, .ref t5, .ref t6, .int 0, .int 0, .ref t9, .ref t10, .int 0, .ref t12, .ref t13, .ref t14, .ref t15, .int 0, .ref t17, .ref t18, .ref t19]))] H1 := hP
    have hD : va_D A [(g, .inr (11, [.ref g0, .ref g1, .ref g2, .int 0, .ref g4, .ref g5, .ref g6, .ref g7, .ref g8, .ref g9, .ref g10, .ref g11, .ref g12])), (g1, .inr (10, [.int 0, .int 0, .int 0, .ref t3, .ref t4, .ref t5, .ref t6, .int 0, .int 0, .ref t9, .ref t10, .int 0, .ref t12, .ref t13, .ref t14, .ref t15, .int 0, .ref t17, .ref t18, .ref t19]))] := hD
    generalize H1 = H at hP hS ⊢
    obtain rfl : r_4 = 1 := hw
    refine lv_if_eq (tgt := 17) hx hb dX11_refusedSlot_11 (by decide) (fun c9 => absurd c9 (by decide)) (fun _ => ?_)
    refine lv_bipush (v := (-2)) hx hb dX11_refusedSlot_14 (by decide) ?_
    have hP9 := hP.sub (ws' := [(g, .inr (11, [.ref g0, .ref g1, .ref g2, .int 0, .ref g4, .ref g5, .ref g6, .ref g7, .ref g8, .ref g9, .ref g10, .ref g11, .ref g12])), (g1, .inr (10, [.int 0, .int 0, .int 0, .ref t3, .ref t4, .ref t5, .ref t6, .int 0, .int 0, .ref t9, .ref t10, .int 0, .ref t12, .ref t13, .ref t14, .ref t15, .int 0, .ref t17, .ref t18, .ref t19]))]) [0, 1] rfl
    have hD9 := hD.sub (ws' := [(g, .inr (11, [.ref g0, .ref g1, .ref g2, .int 0, .ref g4, .ref g5, .ref g6, .ref g7, .ref g8, .ref g9, .ref g10, .ref g11, .ref g12])), (g1, .inr (10, [.int 0, .int 0, .int 0, .ref t3, .ref t4, .ref t5, .ref t6, .int 0, .int 0, .ref t9, .ref t10, .int 0, .ref t12, .ref t13, .ref t14, .ref t15, .int 0, .ref t17, .ref t18, .ref t19]))]) [0, 1] (by decide) rfl
    exact W.iret (v := (-2)) hx hb hr (fun tZ ht hW => ⟨⟨(-2), (), rfl, rfl, by rw [ht]; exact hP9, va_K.moved hW.alike hK, hD9⟩, hS.F ht⟩) hS.2.2 dX11_refusedSlot_16
set_option maxHeartbeats 4000000 in
set_option maxRecDepth 100000 in
theorem c_X11_lane (l : Launch) (D : va_G) (k : Nat → ClassId) (g : Nat) (g0 : Nat) (g1 : Nat) (g2 : Nat) (g4 : Nat) (g5 : Nat) (g6 : Nat) (g7 : Nat) (g8 : Nat) (g9 : Nat) (g10 : Nat) (g11 : Nat) (g12 : Nat) (t3 : Nat) (t4 : Nat) (t5 : Nat) (t6 : Nat) (t9 : Nat) (t10 : Nat) (t12 : Nat) (t13 : Nat) (t14 : Nat) (t15 : Nat) (t17 : Nat) (t18 : Nat) (t19 : Nat) (p0 : Int32) (p1 : Int32) (sz : Nat) : Met l yX11_lane (ww yX11_lane cX11_lane 3 (some .int)) ({ frames := 1, cells := 0, slots := 0, locals := 21 }) (Pre0 D k [(g, .inr (11, [.ref g0, .ref g1, .ref g2, .int 0, .ref g4, .ref g5, .ref g6, .ref g7, .ref g8, .ref g9, .ref g10, .ref g11, .ref g12])), (g1, .inr (10, [.int 0, .int 0, .int 0, .ref t3, .ref t4, .ref t5, .ref t6, .int 0, .int 0, .ref t9, .ref t10, .int 0, .ref t12, .ref t13, .ref t14, .ref t15, .int 0, .ref t17, .ref t18, .ref t19]))] sz [.ref g, .int p0, .int p1]) (va_Qi (fun (r : Int32) (_ : Unit) => r = (-2)) (fun (_ : Unit) tZ => Bw D k (va_A [(g, .inr (11, [.ref g0, .ref g1, .ref g2, .int 0, .ref g4, .ref g5, .ref g6, .ref g7, .ref g8, .ref g9, .ref g10, .ref g11, .ref g12])), (g1, .inr (10, [.int 0, .int 0, .int 0, .ref t3, .ref t4, .ref t5, .ref t6, .int 0, .int 0, .ref t9, .ref t10, .int 0, .ref t12, .ref t13, .ref t14, .ref t15, .int 0, .ref t17, .ref t18, .ref t19]))] sz) [(g, .inr (11, [.ref g0, .ref g1, .ref g2, .int 0, .ref g4, .ref g5, .ref g6, .ref g7, .ref g8, .ref g9, .ref g10, .ref g11, .ref g12])), (g1, .inr (10, [.int 0, .int 0, .int 0, .ref t3, .ref t4, .ref t5, .ref t6, .int 0, .int 0, .ref t9, .ref t10, .int 0, .ref t12, .ref t13, .ref t14, .ref t15, .int 0, .ref t17, .ref t18, .ref t19]))] tZ) (va_A [(g, .inr (11, [.ref g0, .ref g1, .ref g2, .int 0, .ref g4, .ref g5, .ref g6, .ref g7, .ref g8, .ref g9, .ref g10, .ref g11, .ref g12])), (g1, .inr (10, [.int 0, .int 0, .int 0, .ref t3, .ref t4, .ref t5, .ref t6, .int 0, .int 0, .ref t9, .ref t10, .int 0, .ref t12, .ref t13, .ref t14, .ref t15, .int 0, .ref t17, .ref t18, .ref t19]))] sz)) 0 0 (va_A [(g, .inr (11, [.ref g0, .ref g1, .ref g2, .int 0, .ref g4, .ref g5, .ref g6, .ref g7, .ref g8, .ref g9, .ref g10, .ref g11, .ref g12])), (g1, .inr (10, [.int 0, .int 0, .int 0, .ref t3, .ref t4, .ref t5, .ref t6, .int 0, .int 0, .ref t9, .ref t10, .int 0, .ref t12, .ref t13, .ref t14, .ref t15, .int 0, .ref t17, .ref t18, .ref t19]))] sz) := by
  refine Met.ofW (cc := cX11_lane) (maxL := 3) (ret := (some .int)) (by decide +kernel) rfl ?_
  intro p e s m args below meth c s₁ B hml hv
  obtain ⟨rfl, hsz, hP, hK, hD0, hN⟩ := hv
  have hx := B.exec
  have hb := B.bytes
  have hr := B.returns
  have hts : ∀ w ∈ TT, w.before _ s = true := fun w h => atoms_spec (ws := ww yX11_lane cX11_lane 3 (some .int)) B.pre w (List.mem_cons_of_mem _ h)
  have hown : s.vm.findClass RX11 = some m.cls := findClass_of_methodNamed B.named
  have hlocks := B.notSynchronized
  subst hsz
  have hD := hD0.self (sz := s.heap.size)
  generalize hAe : va_A [(g, .inr (11, [.ref g0, .ref g1, .ref g2, .int 0, .ref g4, .ref g5, .ref g6, .ref g7, .ref g8, .ref g9, .ref g10, .ref g11, .ref g12])), (g1, .inr (10, [.int 0, .int 0, .int 0, .ref t3, .ref t4, .ref t5, .ref t6, .int 0, .int 0, .ref t9, .ref t10, .int 0, .ref t12, .ref t13, .ref t14, .ref t15, .int 0, .ref t17, .ref t18, .ref t19]))] s.heap.size = A at hD ⊢
  have hA : ∀ q : Nat, s.heap.size ≤ q → A q := fun q h => by rw [← hAe]; exact Or.inr h
  have hS : va_S A s.heap s.heap [] := va_S.rf
  have hl := lv_entry ([.ref g, .int p0, .int p1]) (n := 3) (Nat.le_of_ble_eq_true rfl)
  rw [lg_entry_eq]
  generalize (lg_sl ([.ref g, .int p0, .int p1]) ++ List.replicate (3 - (lg_sl ([.ref g, .int p0, .int p1])).length) Slot.unset).toArray = ls at hl ⊢
  have hl : lv_has ls 3 [(0, .ref g), (1, .int p0), (2, .int p1)] := hl
  refine lv_aload_n hx hb dX11_lane_0 rfl (lv_at hl 0 rfl) ?_
  refine lv_iload_n hx hb dX11_lane_1 rfl (lv_at hl 1 rfl) ?_
  have hPc := hP.sub (ws' := [(g, .inr (11, [.ref g0, .ref g1, .ref g2, .int 0, .ref g4, .ref g5, .ref g6, .ref g7, .ref g8, .ref g9, .ref g10, .ref g11, .ref g12])), (g1, .inr (10, [.int 0, .int 0, .int 0, .ref t3, .ref t4, .ref t5, .ref t6, .int 0, .int 0, .ref t9, .ref t10, .int 0, .ref t12, .ref t13, .ref t14, .ref t15, .int 0, .ref t17, .ref t18, .ref t19]))]) [0, 1] rfl
  have hDc := hD.sub (ws' := [(g, .inr (11, [.ref g0, .ref g1, .ref g2, .int 0, .ref g4, .ref g5, .ref g6, .ref g7, .ref g8, .ref g9, .ref g10, .ref g11, .ref g12])), (g1, .inr (10, [.int 0, .int 0, .int 0, .ref t3, .ref t4, .ref t5, .ref t6, .int 0, .int 0, .ref t9, .ref t10, .int 0, .ref t12, .ref t13, .ref t14, .ref t15, .int 0, .ref t17, .ref t18, .ref t19]))]) [0, 1] (by decide) rfl
  have hFc := va_free (wc := [(g, .inr (11, [.ref g0, .ref g1, .ref g2, .int 0, .ref g4, .ref g5, .ref g6, .ref g7, .ref g8, .ref g9, .ref g10, .ref g11, .ref g12])), (g1, .inr (10, [.int 0, .int 0, .int 0, .ref t3, .ref t4, .ref t5, .ref t6, .int 0, .int 0, .ref t9, .ref t10, .int 0, .ref t12, .ref t13, .ref t14, .ref t15, .int 0, .ref t17, .ref t18, .ref t19]))]) hD hS hA [0, 1] rfl
  refine va_calli (va_runV (C := RX11) (As := [.int p0]) (rest := []) ⟨hx, hb, hml, hown, hts⟩ (c_X11_isLane l D k g g0 g1 g2 g4 g5 g6 g7 g8 g9 g10 g11 g12 t3 t4 t5 t6 t9 t10 t12 t13 t14 t15 t17 t18 t19 p0 s.heap.size) (cwV 1 hts (gV tw_3_147 tw_3_149 tw_p_15 tw_1_1 tw_3_150) rfl rfl rfl hdV_X11_isLane ⟨Nat.le_of_ble_eq_true rfl, Nat.le_of_ble_eq_true rfl⟩) (cz_V hK hPc hDc hN (ci := 11) (q0 := 0) rfl rfl [.int p0]) rfl rfl hl.1 rfl (lv_room (Nat.le_of_ble_eq_true rfl)) dX11_lane_2 ⟨Nat.le_of_ble_eq_true rfl, Nat.le_of_ble_eq_true rfl⟩) hS (fun q _ h => hFc q h) hFc (fun r_1 uZ tZ H1 locs ht hvm hw hB hz1 hk1 hS => ?_)
  obtain ⟨hP1, hK1, hD1⟩ := hB
  rw [ht] at hP1
  obtain ⟨hP, hD⟩ := va_join (wr := []) (w1 := [(g, .inr (11, [.ref g0, .ref g1, .ref g2, .int 0, .ref g4, .ref g5, .ref g6, .ref g7, .ref g8, .ref g9, .ref g10, .ref g11, .ref g12])), (g1, .inr (10, [.int 0, .int 0, .int 0, .ref t3, .ref t4, .ref t5, .ref t6, .int 0, .int 0, .ref t9, .ref t10, .int 0, .ref t12, .ref t13, .ref t14, .ref t15, .int 0, .ref t17, .ref t18, .ref t19]))]) hP hD [0, 1] [] rfl rfl (by decide) (by decide) hk1 hFc hP1 hD1
  clear hK1 hP1 hD1 hPc hDc hFc
  clear hk1 hz1 ht hvm
  have hP : va_P D vwCl [(g, .inr (11, [.ref g0, .ref g1, .ref g2, .int 0, .ref g4, .ref g5, .ref g6, .ref g7, .ref g8, .ref g9, .ref g10, .ref g11, .ref g12])), (g1, .inr (10, [.int 0, .int 0, .int 0, .ref t3, .ref t4, .ref t5, .ref t6, .int 0, .int 0, .ref t9, .ref t10, .int 0, .ref t12, .ref t13, .ref t14, .ref t15, .int 0, .ref t17, .ref t18, .ref t19]))] H1 := hP
  have hD : va_D A [(g, .inr (11, [.ref g0, .ref g1, .ref g2, .int 0, .ref g4, .ref g5, .ref g6, .ref g7, .ref g8, .ref g9, .ref g10, .ref g11, .ref g12])), (g1, .inr (10, [.int 0, .int 0, .int 0, .ref t3, .ref t4, .ref t5, .ref t6, .int 0, .int 0, .ref t9, .ref t10, .int 0, .ref t12, .ref t13, .ref t14, .ref t15, .int 0, .ref t17, .ref t18, .ref t19]))] := hD
  generalize H1 = H at hP hS ⊢
  obtain rfl : r_1 = 0 := hw
  refine lv_if_ne (tgt := 11) hx hb dX11_lane_5 (by decide) (fun c9 => absurd c9 (by decide)) (fun _ => ?_)
  refine lv_bipush (v := (-2)) hx hb dX11_lane_8 (by decide) ?_
  have hP9 := hP.sub (ws' := [(g, .inr (11, [.ref g0, .ref g1, .ref g2, .int 0, .ref g4, .ref g5, .ref g6, .ref g7, .ref g8, .ref g9, .ref g10, .ref g11, .ref g12])), (g1, .inr (10, [.int 0, .int 0, .int 0, .ref t3, .ref t4, .ref t5, .ref t6, .int 0, .int 0, .ref t9, .ref t10, .int 0, .ref t12, .ref t13, .ref t14, .ref t15, .int 0, .ref t17, .ref t18, .ref t19]))]) [0, 1] rfl
  have hD9 := hD.sub (ws' := [(g, .inr (11, [.ref g0, .ref g1, .ref g2, .int 0, .ref g4, .ref g5, .ref g6, .ref g7, .ref g8, .ref g9, .ref g10, .ref g11, .ref g12])), (g1, .inr (10, [.int 0, .int 0, .int 0, .ref t3, .ref t4, .ref t5, .ref t6, .int 0, .int 0, .ref t9, .ref t10, .int 0, .ref t12, .ref t13, .ref t14, .ref t15, .int 0, .ref t17, .ref t18, .ref t19]))]) [0, 1] (by decide) rfl
  exact W.iret (v := (-2)) hx hb hr (fun tZ ht hW => ⟨⟨(-2), (), rfl, rfl, by rw [ht]; exact hP9, va_K.moved hW.alike hK, hD9⟩, hS.F ht⟩) hS.2.2 dX11_lane_10
set_option maxHeartbeats 4000000 in
set_option maxRecDepth 100000 in
theorem c_X11_gate (l : Launch) (D : va_G) (k : Nat → ClassId) (g : Nat) (g0 : Nat) (g1 : Nat) (g2 : Nat) (g4 : Nat) (g5 : Nat) (g6 : Nat) (g7 : Nat) (g8 : Nat) (g9 : Nat) (g10 : Nat) (g11 : Nat) (g12 : Nat) (t3 : Nat) (t4 : Nat) (t5 : Nat) (t6 : Nat) (t9 : Nat) (t10 : Nat) (t12 : Nat) (t13 : Nat) (t14 : Nat) (t15 : Nat) (t17 : Nat) (t18 : Nat) (t19 : Nat) (p0 : Int32) (p1 : Int32) (sz : Nat) : Met l yX11_gate (ww yX11_gate cX11_gate 3 (some .int)) ({ frames := 1, cells := 0, slots := 0, locals := 21 }) (Pre0 D k [(g, .inr (11, [.ref g0, .ref g1, .ref g2, .int 0, .ref g4, .ref g5, .ref g6, .ref g7, .ref g8, .ref g9, .ref g10, .ref g11, .ref g12])), (g1, .inr (10, [.int 0, .int 0, .int 0, .ref t3, .ref t4, .ref t5, .ref t6, .int 0, .int 0, .ref t9, .ref t10, .int 0, .ref t12, .ref t13, .ref t14, .ref t15, .int 0, .ref t17, .ref t18, .ref t19]))] sz [.ref g, .int p0, .int p1]) (va_Qi (fun (r : Int32) (_ : Unit) => r = (-2)) (fun (_ : Unit) tZ => Bw D k (va_A [(g, .inr (11, [.ref g0, .ref g1, .ref g2, .int 0, .ref g4, .ref g5, .ref g6, .ref g7, .ref g8, .ref g9, .ref g10, .ref g11, .ref g12])), (g1, .inr (10, [.int 0, .int 0, .int 0, .ref t3, .ref t4, .ref t5, .ref t6, .int 0, .int 0, .ref t9, .ref t10, .int 0, .ref t12, .ref t13, .ref t14, .ref t15, .int 0, .ref t17, .ref t18, .ref t19]))] sz) [(g, .inr (11, [.ref g0, .ref g1, .ref g2, .int 0, .ref g4, .ref g5, .ref g6, .ref g7, .ref g8, .ref g9, .ref g10, .ref g11, .ref g12])), (g1, .inr (10, [.int 0, .int 0, .int 0, .ref t3, .ref t4, .ref t5, .ref t6, .int 0, .int 0, .ref t9, .ref t10, .int 0, .ref t12, .ref t13, .ref t14, .ref t15, .int 0, .ref t17, .ref t18, .ref t19]))] tZ) (va_A [(g, .inr (11, [.ref g0, .ref g1, .ref g2, .int 0, .ref g4, .ref g5, .ref g6, .ref g7, .ref g8, .ref g9, .ref g10, .ref g11, .ref g12])), (g1, .inr (10, [.int 0, .int 0, .int 0, .ref t3, .ref t4, .ref t5, .ref t6, .int 0, .int 0, .ref t9, .ref t10, .int 0, .ref t12, .ref t13, .ref t14, .ref t15, .int 0, .ref t17, .ref t18, .ref t19]))] sz)) 0 0 (va_A [(g, .inr (11, [.ref g0, .ref g1, .ref g2, .int 0, .ref g4, .ref g5, .ref g6, .ref g7, .ref g8, .ref g9, .ref g10, .ref g11, .ref g12])), (g1, .inr (10, [.int 0, .int 0, .int 0, .ref t3, .ref t4, .ref t5, .ref t6, .int 0, .int 0, .ref t9, .ref t10, .int 0, .ref t12, .ref t13, .ref t14, .ref t15, .int 0, .ref t17, .ref t18, .ref t19]))] sz) := by
  refine Met.ofW (cc := cX11_gate) (maxL := 3) (ret := (some .int)) (by decide +kernel) rfl ?_
  intro p e s m args below meth c s₁ B hml hv
  obtain ⟨rfl, hsz, hP, hK, hD0, hN⟩ := hv
  have hx := B.exec
  have hb := B.bytes
  have hr := B.returns
  have hts : ∀ w ∈ TT, w.before _ s = true := fun w h => atoms_spec (ws := ww yX11_gate cX11_gate 3 (some .int)) B.pre w (List.mem_cons_of_mem _ h)
  have hown : s.vm.findClass RX11 = some m.cls := findClass_of_methodNamed B.named
  have hlocks := B.notSynchronized
  subst hsz
  have hD := hD0.self (sz := s.heap.size)
  generalize hAe : va_A [(g, .inr (11, [.ref g0, .ref g1, .ref g2, .int 0, .ref g4, .ref g5, .ref g6, .ref g7, .ref g8, .ref g9, .ref g10, .ref g11, .ref g12])), (g1, .inr (10, [.int 0, .int 0, .int 0, .ref t3, .ref t4, .ref t5, .ref t6, .int 0, .int 0, .ref t9, .ref t10, .int 0, .ref t12, .ref t13, .ref t14, .ref t15, .int 0, .ref t17, .ref t18, .ref t19]))] s.heap.size = A at hD ⊢
  have hA : ∀ q : Nat, s.heap.size ≤ q → A q := fun q h => by rw [← hAe]; exact Or.inr h
  have hS : va_S A s.heap s.heap [] := va_S.rf
  have hl := lv_entry ([.ref g, .int p0, .int p1]) (n := 3) (Nat.le_of_ble_eq_true rfl)
  rw [lg_entry_eq]
  generalize (lg_sl ([.ref g, .int p0, .int p1]) ++ List.replicate (3 - (lg_sl ([.ref g, .int p0, .int p1])).length) Slot.unset).toArray = ls at hl ⊢
  have hl : lv_has ls 3 [(0, .ref g), (1, .int p0), (2, .int p1)] := hl
  refine lv_aload_n hx hb dX11_gate_0 rfl (lv_at hl 0 rfl) ?_
  refine lv_iload_n hx hb dX11_gate_1 rfl (lv_at hl 1 rfl) ?_
  have hPc := hP.sub (ws' := [(g, .inr (11, [.ref g0, .ref g1, .ref g2, .int 0, .ref g4, .ref g5, .ref g6, .ref g7, .ref g8, .ref g9, .ref g10, .ref g11, .ref g12])), (g1, .inr (10, [.int 0, .int 0, .int 0, .ref t3, .ref t4, .ref t5, .ref t6, .int 0, .int 0, .ref t9, .ref t10, .int 0, .ref t12, .ref t13, .ref t14, .ref t15, .int 0, .ref t17, .ref t18, .ref t19]))]) [0, 1] rfl
  have hDc := hD.sub (ws' := [(g, .inr (11, [.ref g0, .ref g1, .ref g2, .int 0, .ref g4, .ref g5, .ref g6, .ref g7, .ref g8, .ref g9, .ref g10, .ref g11, .ref g12])), (g1, .inr (10, [.int 0, .int 0, .int 0, .ref t3, .ref t4, .ref t5, .ref t6, .int 0, .int 0, .ref t9, .ref t10, .int 0, .ref t12, .ref t13, .ref t14, .ref t15, .int 0, .ref t17, .ref t18, .ref t19]))]) [0, 1] (by decide) rfl
  have hFc := va_free (wc := [(g, .inr (11, [.ref g0, .ref g1, .ref g2, .int 0, .ref g4, .ref g5, .ref g6, .ref g7, .ref g8, .ref g9, .ref g10, .ref g11, .ref g12])), (g1, .inr (10, [.int 0, .int 0, .int 0, .ref t3, .ref t4, .ref t5, .ref t6, .int 0, .int 0, .ref t9, .ref t10, .int 0, .ref t12, .ref t13, .ref t14, .ref t15, .int 0, .ref t17, .ref t18, .ref t19]))]) hD hS hA [0, 1] rfl
  refine va_calli (va_runV (C := RX11) (As := [.int p0]) (rest := []) ⟨hx, hb, hml, hown, hts⟩ (c_X11_isGate l D k g g0 g1 g2 g4 g5 g6 g7 g8 g9 g10 g11 g12 t3 t4 t5 t6 t9 t10 t12 t13 t14 t15 t17 t18 t19 p0 s.heap.size) (cwV 1 hts (gV tw_3_155 tw_3_157 tw_p_16 tw_1_1 tw_3_158) rfl rfl rfl hdV_X11_isGate ⟨Nat.le_of_ble_eq_true rfl, Nat.le_of_ble_eq_true rfl⟩) (cz_V hK hPc hDc hN (ci := 11) (q0 := 0) rfl rfl [.int p0]) rfl rfl hl.1 rfl (lv_room (Nat.le_of_ble_eq_true rfl)) dX11_gate_2 ⟨Nat.le_of_ble_eq_true rfl, Nat.le_of_ble_eq_true rfl⟩) hS (fun q _ h => hFc q h) hFc (fun r_1 uZ tZ H1 locs ht hvm hw hB hz1 hk1 hS => ?_)
  obtain ⟨hP1, hK1, hD1⟩ := hB
  rw [ht] at hP1
  obtain ⟨hP, hD⟩ := va_join (wr := []) (w1 := [(g, .inr (11, [.ref g0, .ref g1, .ref g2, .int 0, .ref g4, .ref g5, .ref g6, .ref g7, .ref g8, .ref g9, .ref g10, .ref g11, .ref g12])), (g1, .inr (10, [.int 0, .int 0, .int 0, .ref t3, .ref t4, .ref t5, .ref t6, .int 0, .int 0, .ref t9, .ref t10, .int 0, .ref t12, .ref t13, .ref t14, .ref t15, .int 0, .ref t17, .ref t18, .ref t19]))]) hP hD [0, 1] [] rfl rfl (by decide) (by decide) hk1 hFc hP1 hD1
  clear hK1 hP1 hD1 hPc hDc hFc
  clear hk1 hz1 ht hvm
  have hP : va_P D vwCl [(g, .inr (11, [.ref g0, .ref g1, .ref g2, .int 0, .ref g4, .ref g5, .ref g6, .ref g7, .ref g8, .ref g9, .ref g10, .ref g11, .ref g12])), (g1, .inr (10, [.int 0, .int 0, .int 0, .ref t3, .ref t4, .ref t5, .ref t6, .int 0, .int 0, .ref t9, .ref t10, .int 0, .ref t12, .ref t13, .ref t14, .ref t15, .int 0, .ref t17, .ref t18, .ref t19]))] H1 := hP
  have hD : va_D A [(g, .inr (11, [.ref g0, .ref g1, .ref g2, .int 0, .ref g4, .ref g5, .ref g6, .ref g7, .ref g8, .ref g9, .ref g10, .ref g11, .ref g12])), (g1, .inr (10, [.int 0, .int 0, .int 0, .ref t3, .ref t4, .ref t5, .ref t6, .int 0, .int 0, .ref t9, .ref t10, .int 0, .ref t12, .ref t13, .ref t14, .ref t15, .int 0, .ref t17, .ref t18, .ref t19]))] := hD
  generalize H1 = H at hP hS ⊢
  obtain rfl : r_1 = 0 := hw
  refine lv_if_ne (tgt := 11) hx hb dX11_gate_5 (by decide) (fun c9 => absurd c9 (by decide)) (fun _ => ?_)
  refine lv_bipush (v := (-2)) hx hb dX11_gate_8 (by decide) ?_
  have hP9 := hP.sub (ws' := [(g, .inr (11, [.ref g0, .ref g1, .ref g2, .int 0, .ref g4, .ref g5, .ref g6, .ref g7, .ref g8, .ref g9, .ref g10, .ref g11, .ref g12])), (g1, .inr (10, [.int 0, .int 0, .int 0, .ref t3, .ref t4, .ref t5, .ref t6, .int 0, .int 0, .ref t9, .ref t10, .int 0, .ref t12, .ref t13, .ref t14, .ref t15, .int 0, .ref t17, .ref t18, .ref t19]))]) [0, 1] rfl
  have hD9 := hD.sub (ws' := [(g, .inr (11, [.ref g0, .ref g1, .ref g2, .int 0, .ref g4, .ref g5, .ref g6, .ref g7, .ref g8, .ref g9, .ref g10, .ref g11, .ref g12])), (g1, .inr (10, [.int 0, .int 0, .int 0, .ref t3, .ref t4, .ref t5, .ref t6, .int 0, .int 0, .ref t9, .ref t10, .int 0, .ref t12, .ref t13, .ref t14, .ref t15, .int 0, .ref t17, .ref t18, .ref t19]))]) [0, 1] (by decide) rfl
  exact W.iret (v := (-2)) hx hb hr (fun tZ ht hW => ⟨⟨(-2), (), rfl, rfl, by rw [ht]; exact hP9, va_K.moved hW.alike hK, hD9⟩, hS.F ht⟩) hS.2.2 dX11_gate_10
set_option maxHeartbeats 4000000 in
set_option maxRecDepth 100000 in
theorem c_X11_house (l : Launch) (D : va_G) (k : Nat → ClassId) (g : Nat) (g0 : Nat) (g1 : Nat) (g2 : Nat) (g4 : Nat) (g5 : Nat) (g6 : Nat) (g7 : Nat) (g8 : Nat) (g9 : Nat) (g10 : Nat) (g11 : Nat) (g12 : Nat) (t3 : Nat) (t4 : Nat) (t5 : Nat) (t6 : Nat) (t9 : Nat) (t10 : Nat) (t12 : Nat) (t13 : Nat) (t14 : Nat) (t15 : Nat) (t17 : Nat) (t18 : Nat) (t19 : Nat) (p0 : Int32) (p1 : Int32) (sz : Nat) : Met l yX11_house (ww yX11_house cX11_house 3 (some .int)) ({ frames := 1, cells := 0, slots := 0, locals := 21 }) (Pre0 D k [(g, .inr (11, [.ref g0, .ref g1, .ref g2, .int 0, .ref g4, .ref g5, .ref g6, .ref g7, .ref g8, .ref g9, .ref g10, .ref g11, .ref g12])), (g1, .inr (10, [.int 0, .int 0, .int 0, .ref t3, .ref t4, .ref t5, .ref t6, .int 0, .int 0, .ref t9, .ref t10, .int 0, .ref t12, .ref t13, .ref t14, .ref t15, .int 0, .ref t17, .ref t18, .ref t19]))] sz [.ref g, .int p0, .int p1]) (va_Qi (fun (r : Int32) (_ : Unit) => r = (-2)) (fun (_ : Unit) tZ => Bw D k (va_A [(g, .inr (11, [.ref g0, .ref g1, .ref g2, .int 0, .ref g4, .ref g5, .ref g6, .ref g7, .ref g8, .ref g9, .ref g10, .ref g11, .ref g12])), (g1, .inr (10, [.int 0, .int 0, .int 0, .ref t3, .ref t4, .ref t5, .ref t6, .int 0, .int 0, .ref t9, .ref t10, .int 0, .ref t12, .ref t13, .ref t14, .ref t15, .int 0, .ref t17, .ref t18, .ref t19]))] sz) [(g, .inr (11, [.ref g0, .ref g1, .ref g2, .int 0, .ref g4, .ref g5, .ref g6, .ref g7, .ref g8, .ref g9, .ref g10, .ref g11, .ref g12])), (g1, .inr (10, [.int 0, .int 0, .int 0, .ref t3, .ref t4, .ref t5, .ref t6, .int 0, .int 0, .ref t9, .ref t10, .int 0, .ref t12, .ref t13, .ref t14, .ref t15, .int 0, .ref t17, .ref t18, .ref t19]))] tZ) (va_A [(g, .inr (11, [.ref g0, .ref g1, .ref g2, .int 0, .ref g4, .ref g5, .ref g6, .ref g7, .ref g8, .ref g9, .ref g10, .ref g11, .ref g12])), (g1, .inr (10, [.int 0, .int 0, .int 0, .ref t3, .ref t4, .ref t5, .ref t6, .int 0, .int 0, .ref t9, .ref t10, .int 0, .ref t12, .ref t13, .ref t14, .ref t15, .int 0, .ref t17, .ref t18, .ref t19]))] sz)) 0 0 (va_A [(g, .inr (11, [.ref g0, .ref g1, .ref g2, .int 0, .ref g4, .ref g5, .ref g6, .ref g7, .ref g8, .ref g9, .ref g10, .ref g11, .ref g12])), (g1, .inr (10, [.int 0, .int 0, .int 0, .ref t3, .ref t4, .ref t5, .ref t6, .int 0, .int 0, .ref t9, .ref t10, .int 0, .ref t12, .ref t13, .ref t14, .ref t15, .int 0, .ref t17, .ref t18, .ref t19]))] sz) := by
  refine Met.ofW (cc := cX11_house) (maxL := 3) (ret := (some .int)) (by decide +kernel) rfl ?_
  intro p e s m args below meth c s₁ B hml hv
  obtain ⟨rfl, hsz, hP, hK, hD0, hN⟩ := hv
  have hx := B.exec
  have hb := B.bytes
  have hr := B.returns
  have hts : ∀ w ∈ TT, w.before _ s = true := fun w h => atoms_spec (ws := ww yX11_house cX11_house 3 (some .int)) B.pre w (List.mem_cons_of_mem _ h)
  have hown : s.vm.findClass RX11 = some m.cls := findClass_of_methodNamed B.named
  have hlocks := B.notSynchronized
  subst hsz
  have hD := hD0.self (sz := s.heap.size)
  generalize hAe : va_A [(g, .inr (11, [.ref g0, .ref g1, .ref g2, .int 0, .ref g4, .ref g5, .ref g6, .ref g7, .ref g8, .ref g9, .ref g10, .ref g11, .ref g12])), (g1, .inr (10, [.int 0, .int 0, .int 0, .ref t3, .ref t4, .ref t5, .ref t6, .int 0, .int 0, .ref t9, .ref t10, .int 0, .ref t12, .ref t13, .ref t14, .ref t15, .int 0, .ref t17, .ref t18, .ref t19]))] s.heap.size = A at hD ⊢
  have hA : ∀ q : Nat, s.heap.size ≤ q → A q := fun q h => by rw [← hAe]; exact Or.inr h
  have hS : va_S A s.heap s.heap [] := va_S.rf
  have hl := lv_entry ([.ref g, .int p0, .int p1]) (n := 3) (Nat.le_of_ble_eq_true rfl)
  rw [lg_entry_eq]
  generalize (lg_sl ([.ref g, .int p0, .int p1]) ++ List.replicate (3 - (lg_sl ([.ref g, .int p0, .int p1])).length) Slot.unset).toArray = ls at hl ⊢
  have hl : lv_has ls 3 [(0, .ref g), (1, .int p0), (2, .int p1)] := hl
  refine lv_aload_n hx hb dX11_house_0 rfl (lv_at hl 0 rfl) ?_
  refine lv_iload_n hx hb dX11_house_1 rfl (lv_at hl 1 rfl) ?_
  have hPc := hP.sub (ws' := [(g, .inr (11, [.ref g0, .ref g1, .ref g2, .int 0, .ref g4, .ref g5, .ref g6, .ref g7, .ref g8, .ref g9, .ref g10, .ref g11, .ref g12])), (g1, .inr (10, [.int 0, .int 0, .int 0, .ref t3, .ref t4, .ref t5, .ref t6, .int 0, .int 0, .ref t9, .ref t10, .int 0, .ref t12, .ref t13, .ref t14, .ref t15, .int 0, .ref t17, .ref t18, .ref t19]))]) [0, 1] rfl
  have hDc := hD.sub (ws' := [(g, .inr (11, [.ref g0, .ref g1, .ref g2, .int 0, .ref g4, .ref g5, .ref g6, .ref g7, .ref g8, .ref g9, .ref g10, .ref g11, .ref g12])), (g1, .inr (10, [.int 0, .int 0, .int 0, .ref t3, .ref t4, .ref t5, .ref t6, .int 0, .int 0, .ref t9, .ref t10, .int 0, .ref t12, .ref t13, .ref t14, .ref t15, .int 0, .ref t17, .ref t18, .ref t19]))]) [0, 1] (by decide) rfl
  have hFc := va_free (wc := [(g, .inr (11, [.ref g0, .ref g1, .ref g2, .int 0, .ref g4, .ref g5, .ref g6, .ref g7, .ref g8, .ref g9, .ref g10, .ref g11, .ref g12])), (g1, .inr (10, [.int 0, .int 0, .int 0, .ref t3, .ref t4, .ref t5, .ref t6, .int 0, .int 0, .ref t9, .ref t10, .int 0, .ref t12, .ref t13, .ref t14, .ref t15, .int 0, .ref t17, .ref t18, .ref t19]))]) hD hS hA [0, 1] rfl
  refine va_calli (va_runV (C := RX11) (As := [.int p0]) (rest := []) ⟨hx, hb, hml, hown, hts⟩ (c_X11_isHouse l D k g g0 g1 g2 g4 g5 g6 g7 g8 g9 g10 g11 g12 t3 t4 t5 t6 t9 t10 t12 t13 t14 t15 t17 t18 t19 p0 s.heap.size) (cwV 1 hts (gV tw_3_163 tw_3_165 tw_p_17 tw_1_1 tw_3_166) rfl rfl rfl hdV_X11_isHouse ⟨Nat.le_of_ble_eq_true rfl, Nat.le_of_ble_eq_true rfl⟩) (cz_V hK hPc hDc hN (ci := 11) (q0 := 0) rfl rfl [.int p0]) rfl rfl hl.1 rfl (lv_room (Nat.le_of_ble_eq_true rfl)) dX11_house_2 ⟨Nat.le_of_ble_eq_true rfl, Nat.le_of_ble_eq_true rfl⟩) hS (fun q _ h => hFc q h) hFc (fun r_1 uZ tZ H1 locs ht hvm hw hB hz1 hk1 hS => ?_)
  obtain ⟨hP1, hK1, hD1⟩ := hB
  rw [ht] at hP1
  obtain ⟨hP, hD⟩ := va_join (wr := []) (w1 := [(g, .inr (11, [.ref g0, .ref g1, .ref g2, .int 0, .ref g4, .ref g5, .ref g6, .ref g7, .ref g8, .ref g9, .ref g10, .ref g11, .ref g12])), (g1, .inr (10, [.int 0, .int 0, .int 0, .ref t3, .ref t4, .ref t5, .ref t6, .int 0, .int 0, .ref t9, .ref t10, .int 0, .ref t12, .ref t13, .ref t14, .ref t15, .int 0, .ref t17, .ref t18, .ref t19]))]) hP hD [0, 1] [] rfl rfl (by decide) (by decide) hk1 hFc hP1 hD1
  clear hK1 hP1 hD1 hPc hDc hFc
  clear hk1 hz1 ht hvm
  have hP : va_P D vwCl [(g, .inr (11, [.ref g0, .ref g1, .ref g2, .int 0, .ref g4, .ref g5, .ref g6, .ref g7, .ref g8, .ref g9, .ref g10, .ref g11, .ref g12])), (g1, .inr (10, [.int 0, .int 0, .int 0, .ref t3, .ref t4, .ref t5, .ref t6, .int 0, .int 0, .ref t9, .ref t10, .int 0, .ref t12, .ref t13, .ref t14, .ref t15, .int 0, .ref t17, .ref t18, .ref t19]))] H1 := hP
  have hD : va_D A [(g, .inr (11, [.ref g0, .ref g1, .ref g2, .int 0, .ref g4, .ref g5, .ref g6, .ref g7, .ref g8, .ref g9, .ref g10, .ref g11, .ref g12])), (g1, .inr (10, [.int 0, .int 0, .int 0, .ref t3, .ref t4, .ref t5, .ref t6, .int 0, .int 0, .ref t9, .ref t10, .int 0, .ref t12, .ref t13, .ref t14, .ref t15, .int 0, .ref t17, .ref t18, .ref t19]))] := hD
  generalize H1 = H at hP hS ⊢
  obtain rfl : r_1 = 0 := hw
  refine lv_if_ne (tgt := 11) hx hb dX11_house_5 (by decide) (fun c9 => absurd c9 (by decide)) (fun _ => ?_)
  refine lv_bipush (v := (-2)) hx hb dX11_house_8 (by decide) ?_
  have hP9 := hP.sub (ws' := [(g, .inr (11, [.ref g0, .ref g1, .ref g2, .int 0, .ref g4, .ref g5, .ref g6, .ref g7, .ref g8, .ref g9, .ref g10, .ref g11, .ref g12])), (g1, .inr (10, [.int 0, .int 0, .int 0, .ref t3, .ref t4, .ref t5, .ref t6, .int 0, .int 0, .ref t9, .ref t10, .int 0, .ref t12, .ref t13, .ref t14, .ref t15, .int 0, .ref t17, .ref t18, .ref t19]))]) [0, 1] rfl
  have hD9 := hD.sub (ws' := [(g, .inr (11, [.ref g0, .ref g1, .ref g2, .int 0, .ref g4, .ref g5, .ref g6, .ref g7, .ref g8, .ref g9, .ref g10, .ref g11, .ref g12])), (g1, .inr (10, [.int 0, .int 0, .int 0, .ref t3, .ref t4, .ref t5, .ref t6, .int 0, .int 0, .ref t9, .ref t10, .int 0, .ref t12, .ref t13, .ref t14, .ref t15, .int 0, .ref t17, .ref t18, .ref t19]))]) [0, 1] (by decide) rfl
  exact W.iret (v := (-2)) hx hb hr (fun tZ ht hW => ⟨⟨(-2), (), rfl, rfl, by rw [ht]; exact hP9, va_K.moved hW.alike hK, hD9⟩, hS.F ht⟩) hS.2.2 dX11_house_10
set_option maxHeartbeats 4000000 in
set_option maxRecDepth 100000 in
theorem c_X11_comes (l : Launch) (D : va_G) (k : Nat → ClassId) (g : Nat) (g0 : Nat) (g1 : Nat) (g2 : Nat) (g4 : Nat) (g5 : Nat) (g6 : Nat) (g7 : Nat) (g8 : Nat) (g9 : Nat) (g10 : Nat) (g11 : Nat) (g12 : Nat) (t3 : Nat) (t4 : Nat) (t5 : Nat) (t6 : Nat) (t9 : Nat) (t10 : Nat) (t12 : Nat) (t13 : Nat) (t14 : Nat) (t15 : Nat) (t17 : Nat) (t18 : Nat) (t19 : Nat) (p0 : Int32) (sz : Nat) : Met l yX11_comes (ww yX11_comes cX11_comes 2 (some .int)) ({ frames := 1, cells := 0, slots := 0, locals := 21 }) (Pre0 D k [(g, .inr (11, [.ref g0, .ref g1, .ref g2, .int 0, .ref g4, .ref g5, .ref g6, .ref g7, .ref g8, .ref g9, .ref g10, .ref g11, .ref g12])), (g1, .inr (10, [.int 0, .int 0, .int 0, .ref t3, .ref t4, .ref t5, .ref t6, .int 0, .int 0, .ref t9, .ref t10, .int 0, .ref t12, .ref t13, .ref t14, .ref t15, .int 0, .ref t17, .ref t18, .ref t19]))] sz [.ref g, .int p0]) (va_Qi (fun (r : Int32) (_ : Unit) => r = (-2)) (fun (_ : Unit) tZ => Bw D k (va_A [(g, .inr (11, [.ref g0, .ref g1, .ref g2, .int 0, .ref g4, .ref g5, .ref g6, .ref g7, .ref g8, .ref g9, .ref g10, .ref g11, .ref g12])), (g1, .inr (10, [.int 0, .int 0, .int 0, .ref t3, .ref t4, .ref t5, .ref t6, .int 0, .int 0, .ref t9, .ref t10, .int 0, .ref t12, .ref t13, .ref t14, .ref t15, .int 0, .ref t17, .ref t18, .ref t19]))] sz) [(g, .inr (11, [.ref g0, .ref g1, .ref g2, .int 0, .ref g4, .ref g5, .ref g6, .ref g7, .ref g8, .ref g9, .ref g10, .ref g11, .ref g12])), (g1, .inr (10, [.int 0, .int 0, .int 0, .ref t3, .ref t4, .ref t5, .ref t6, .int 0, .int 0, .ref t9, .ref t10, .int 0, .ref t12, .ref t13, .ref t14, .ref t15, .int 0, .ref t17, .ref t18, .ref t19]))] tZ) (va_A [(g, .inr (11, [.ref g0, .ref g1, .ref g2, .int 0, .ref g4, .ref g5, .ref g6, .ref g7, .ref g8, .ref g9, .ref g10, .ref g11, .ref g12])), (g1, .inr (10, [.int 0, .int 0, .int 0, .ref t3, .ref t4, .ref t5, .ref t6, .int 0, .int 0, .ref t9, .ref t10, .int 0, .ref t12, .ref t13, .ref t14, .ref t15, .int 0, .ref t17, .ref t18, .ref t19]))] sz)) 0 0 (va_A [(g, .inr (11, [.ref g0, .ref g1, .ref g2, .int 0, .ref g4, .ref g5, .ref g6, .ref g7, .ref g8, .ref g9, .ref g10, .ref g11, .ref g12])), (g1, .inr (10, [.int 0, .int 0, .int 0, .ref t3, .ref t4, .ref t5, .ref t6, .int 0, .int 0, .ref t9, .ref t10, .int 0, .ref t12, .ref t13, .ref t14, .ref t15, .int 0, .ref t17, .ref t18, .ref t19]))] sz) := by
  refine Met.ofW (cc := cX11_comes) (maxL := 2) (ret := (some .int)) (by decide +kernel) rfl ?_
  intro p e s m args below meth c s₁ B hml hv
  obtain ⟨rfl, hsz, hP, hK, hD0, hN⟩ := hv
  have hx := B.exec
  have hb := B.bytes
  have hr := B.returns
  have hts : ∀ w ∈ TT, w.before _ s = true := fun w h => atoms_spec (ws := ww yX11_comes cX11_comes 2 (some .int)) B.pre w (List.mem_cons_of_mem _ h)
  have hown : s.vm.findClass RX11 = some m.cls := findClass_of_methodNamed B.named
  have hlocks := B.notSynchronized
  subst hsz
  have hD := hD0.self (sz := s.heap.size)
  generalize hAe : va_A [(g, .inr (11, [.ref g0, .ref g1, .ref g2, .int 0, .ref g4, .ref g5, .ref g6, .ref g7, .ref g8, .ref g9, .ref g10, .ref g11, .ref g12])), (g1, .inr (10, [.int 0, .int 0, .int 0, .ref t3, .ref t4, .ref t5, .ref t6, .int 0, .int 0, .ref t9, .ref t10, .int 0, .ref t12, .ref t13, .ref t14, .ref t15, .int 0, .ref t17, .ref t18, .ref t19]))] s.heap.size = A at hD ⊢
  have hA : ∀ q : Nat, s.heap.size ≤ q → A q := fun q h => by rw [← hAe]; exact Or.inr h
  have hS : va_S A s.heap s.heap [] := va_S.rf
  have hl := lv_entry ([.ref g, .int p0]) (n := 2) (Nat.le_of_ble_eq_true rfl)
  rw [lg_entry_eq]
  generalize (lg_sl ([.ref g, .int p0]) ++ List.replicate (2 - (lg_sl ([.ref g, .int p0])).length) Slot.unset).toArray = ls at hl ⊢
  have hl : lv_has ls 2 [(0, .ref g), (1, .int p0)] := hl
  refine lv_aload_n hx hb dX11_comes_0 rfl (lv_at hl 0 rfl) ?_
  refine lv_iload_n hx hb dX11_comes_1 rfl (lv_at hl 1 rfl) ?_
  have hPc := hP.sub (ws' := [(g, .inr (11, [.ref g0, .ref g1, .ref g2, .int 0, .ref g4, .ref g5, .ref g6, .ref g7, .ref g8, .ref g9, .ref g10, .ref g11, .ref g12])), (g1, .inr (10, [.int 0, .int 0, .int 0, .ref t3, .ref t4, .ref t5, .ref t6, .int 0, .int 0, .ref t9, .ref t10, .int 0, .ref t12, .ref t13, .ref t14, .ref t15, .int 0, .ref t17, .ref t18, .ref t19]))]) [0, 1] rfl
  have hDc := hD.sub (ws' := [(g, .inr (11, [.ref g0, .ref g1, .ref g2, .int 0, .ref g4, .ref g5, .ref g6, .ref g7, .ref g8, .ref g9, .ref g10, .ref g11, .ref g12])), (g1, .inr (10, [.int 0, .int 0, .int 0, .ref t3, .ref t4, .ref t5, .ref t6, .int 0, .int 0, .ref t9, .ref t10, .int 0, .ref t12, .ref t13, .ref t14, .ref t15, .int 0, .ref t17, .ref t18, .ref t19]))]) [0, 1] (by decide) rfl
  have hFc := va_free (wc := [(g, .inr (11, [.ref g0, .ref g1, .ref g2, .int 0, .ref g4, .ref g5, .ref g6, .ref g7, .ref g8, .ref g9, .ref g10, .ref g11, .ref g12])), (g1, .inr (10, [.int 0, .int 0, .int 0, .ref t3, .ref t4, .ref t5, .ref t6, .int 0, .int 0, .ref t9, .ref t10, .int 0, .ref t12, .ref t13, .ref t14, .ref t15, .int 0, .ref t17, .ref t18, .ref t19]))]) hD hS hA [0, 1] rfl
  refine va_calli (va_runV (C := RX11) (As := [.int p0]) (rest := []) ⟨hx, hb, hml, hown, hts⟩ (c_X11_isStreet l D k g g0 g1 g2 g4 g5 g6 g7 g8 g9 g10 g11 g12 t3 t4 t5 t6 t9 t10 t12 t13 t14 t15 t17 t18 t19 p0 s.heap.size) (cwV 1 hts (gV tw_3_171 tw_3_173 tw_p_18 tw_1_1 tw_3_174) rfl rfl rfl hdV_X11_isStreet ⟨Nat.le_of_ble_eq_true rfl, Nat.le_of_ble_eq_true rfl⟩) (cz_V hK hPc hDc hN (ci := 11) (q0 := 0) rfl rfl [.int p0]) rfl rfl hl.1 rfl (lv_room (Nat.le_of_ble_eq_true rfl)) dX11_comes_2 ⟨Nat.le_of_ble_eq_true rfl, Nat.le_of_ble_eq_true rfl⟩) hS (fun q _ h => hFc q h) hFc (fun r_1 uZ tZ H1 locs ht hvm hw hB hz1 hk1 hS => ?_)
  obtain ⟨hP1, hK1, hD1⟩ := hB
  rw [ht] at hP1
  obtain ⟨hP, hD⟩ := va_join (wr := []) (w1 := [(g, .inr (11, [.ref g0, .ref g1, .ref g2, .int 0, .ref g4, .ref g5, .ref g6, .ref g7, .ref g8, .ref g9, .ref g10, .ref g11, .ref g12])), (g1, .inr (10, [.int 0, .int 0, .int 0, .ref t3, .ref t4, .ref t5, .ref t6, .int 0, .int 0, .ref t9, .ref t10, .int 0, .ref t12, .ref t13, .ref t14, .ref t15, .int 0, .ref t17, .ref t18, .ref t19]))]) hP hD [0, 1] [] rfl rfl (by decide) (by decide) hk1 hFc hP1 hD1
  clear hK1 hP1 hD1 hPc hDc hFc
  clear hk1 hz1 ht hvm
  have hP : va_P D vwCl [(g, .inr (11, [.ref g0, .ref g1, .ref g2, .int 0, .ref g4, .ref g5, .ref g6, .ref g7, .ref g8, .ref g9, .ref g10, .ref g11, .ref g12])), (g1, .inr (10, [.int 0, .int 0, .int 0, .ref t3, .ref t4, .ref t5, .ref t6, .int 0, .int 0, .ref t9, .ref t10, .int 0, .ref t12, .ref t13, .ref t14, .ref t15, .int 0, .ref t17, .ref t18, .ref t19]))] H1 := hP
  have hD : va_D A [(g, .inr (11, [.ref g0, .ref g1, .ref g2, .int 0, .ref g4, .ref g5, .ref g6, .ref g7, .ref g8, .ref g9, .ref g10, .ref g11, .ref g12])), (g1, .inr (10, [.int 0, .int 0, .int 0, .ref t3, .ref t4, .ref t5, .ref t6, .int 0, .int 0, .ref t9, .ref t10, .int 0, .ref t12, .ref t13, .ref t14, .ref t15, .int 0, .ref t17, .ref t18, .ref t19]))] := hD
  generalize H1 = H at hP hS ⊢
  obtain rfl : r_1 = 0 := hw
  refine lv_if_ne (tgt := 11) hx hb dX11_comes_5 (by decide) (fun c9 => absurd c9 (by decide)) (fun _ => ?_)
  refine lv_bipush (v := (-2)) hx hb dX11_comes_8 (by decide) ?_
  have hP9 := hP.sub (ws' := [(g, .inr (11, [.ref g0, .ref g1, .ref g2, .int 0, .ref g4, .ref g5, .ref g6, .ref g7, .ref g8, .ref g9, .ref g10, .ref g11, .ref g12])), (g1, .inr (10, [.int 0, .int 0, .int 0, .ref t3, .ref t4, .ref t5, .ref t6, .int 0, .int 0, .ref t9, .ref t10, .int 0, .ref t12, .ref t13, .ref t14, .ref t15, .int 0, .ref t17, .ref t18, .ref t19]))]) [0, 1] rfl
  have hD9 := hD.sub (ws' := [(g, .inr (11, [.ref g0, .ref g1, .ref g2, .int 0, .ref g4, .ref g5, .ref g6, .ref g7, .ref g8, .ref g9, .ref g10, .ref g11, .ref g12])), (g1, .inr (10, [.int 0, .int 0, .int 0, .ref t3, .ref t4, .ref t5, .ref t6, .int 0, .int 0, .ref t9, .ref t10, .int 0, .ref t12, .ref t13, .ref t14, .ref t15, .int 0, .ref t17, .ref t18, .ref t19]))]) [0, 1] (by decide) rfl
  exact W.iret (v := (-2)) hx hb hr (fun tZ ht hW => ⟨⟨(-2), (), rfl, rfl, by rw [ht]; exact hP9, va_K.moved hW.alike hK, hD9⟩, hS.F ht⟩) hS.2.2 dX11_comes_10
set_option maxHeartbeats 4000000 in
set_option maxRecDepth 100000 in
theorem c_X11_from (l : Launch) (D : va_G) (k : Nat → ClassId) (g : Nat) (g0 : Nat) (g1 : Nat) (g2 : Nat) (g4 : Nat) (g5 : Nat) (g6 : Nat) (g7 : Nat) (g8 : Nat) (g9 : Nat) (g10 : Nat) (g11 : Nat) (g12 : Nat) (t3 : Nat) (t4 : Nat) (t5 : Nat) (t6 : Nat) (t9 : Nat) (t10 : Nat) (t12 : Nat) (t13 : Nat) (t14 : Nat) (t15 : Nat) (t17 : Nat) (t18 : Nat) (t19 : Nat) (p0 : Int32) (sz : Nat) : Met l yX11_from (ww yX11_from cX11_from 4 (some .int)) ({ frames := 1, cells := 0, slots := 0, locals := 21 }) (Pre0 D k [(g, .inr (11, [.ref g0, .ref g1, .ref g2, .int 0, .ref g4, .ref g5, .ref g6, .ref g7, .ref g8, .ref g9, .ref g10, .ref g11, .ref g12])), (g1, .inr (10, [.int 0, .int 0, .int 0, .ref t3, .ref t4, .ref t5, .ref t6, .int 0, .int 0, .ref t9, .ref t10, .int 0, .ref t12, .ref t13, .ref t14, .ref t15, .int 0, .ref t17, .ref t18, .ref t19]))] sz [.ref g, .int p0]) (va_Qi (fun (r : Int32) (_ : Unit) => r = (-2)) (fun (_ : Unit) tZ => Bw D k (va_A [(g, .inr (11, [.ref g0, .ref g1, .ref g2, .int 0, .ref g4, .ref g5, .ref g6, .ref g7, .ref g8, .ref g9, .ref g10, .ref g11, .ref g12])), (g1, .inr (10, [.int 0, .int 0, .int 0, .ref t3, .ref t4, .ref t5, .ref t6, .int 0, .int 0, .ref t9, .ref t10, .int 0, .ref t12, .ref t13, .ref t14, .ref t15, .int 0, .ref t17, .ref t18, .ref t19]))] sz) [(g, .inr (11, [.ref g0, .ref g1, .ref g2, .int 0, .ref g4, .ref g5, .ref g6, .ref g7, .ref g8, .ref g9, .ref g10, .ref g11, .ref g12])), (g1, .inr (10, [.int 0, .int 0, .int 0, .ref t3, .ref t4, .ref t5, .ref t6, .int 0, .int 0, .ref t9, .ref t10, .int 0, .ref t12, .ref t13, .ref t14, .ref t15, .int 0, .ref t17, .ref t18, .ref t19]))] tZ) (va_A [(g, .inr (11, [.ref g0, .ref g1, .ref g2, .int 0, .ref g4, .ref g5, .ref g6, .ref g7, .ref g8, .ref g9, .ref g10, .ref g11, .ref g12])), (g1, .inr (10, [.int 0, .int 0, .int 0, .ref t3, .ref t4, .ref t5, .ref t6, .int 0, .int 0, .ref t9, .ref t10, .int 0, .ref t12, .ref t13, .ref t14, .ref t15, .int 0, .ref t17, .ref t18, .ref t19]))] sz)) 0 0 (va_A [(g, .inr (11, [.ref g0, .ref g1, .ref g2, .int 0, .ref g4, .ref g5, .ref g6, .ref g7, .ref g8, .ref g9, .ref g10, .ref g11, .ref g12])), (g1, .inr (10, [.int 0, .int 0, .int 0, .ref t3, .ref t4, .ref t5, .ref t6, .int 0, .int 0, .ref t9, .ref t10, .int 0, .ref t12, .ref t13, .ref t14, .ref t15, .int 0, .ref t17, .ref t18, .ref t19]))] sz) := by
  refine Met.ofW (cc := cX11_from) (maxL := 4) (ret := (some .int)) (by decide +kernel) rfl ?_
  intro p e s m args below meth c s₁ B hml hv
  obtain ⟨rfl, hsz, hP, hK, hD0, hN⟩ := hv
  have hx := B.exec
  have hb := B.bytes
  have hr := B.returns
  have hts : ∀ w ∈ TT, w.before _ s = true := fun w h => atoms_spec (ws := ww yX11_from cX11_from 4 (some .int)) B.pre w (List.mem_cons_of_mem _ h)
  have hown : s.vm.findClass RX11 = some m.cls := findClass_of_methodNamed B.named
  have hlocks := B.notSynchronized
  subst hsz
  have hD := hD0.self (sz := s.heap.size)
  generalize hAe : va_A [(g, .inr (11, [.ref g0, .ref g1, .ref g2, .int 0, .ref g4, .ref g5, .ref g6, .ref g7, .ref g8, .ref g9, .ref g10, .ref g11, .ref g12])), (g1, .inr (10, [.int 0, .int 0, .int 0, .ref t3, .ref t4, .ref t5, .ref t6, .int 0, .int 0, .ref t9, .ref t10, .int 0, .ref t12, .ref t13, .ref t14, .ref t15, .int 0, .ref t17, .ref t18, .ref t19]))] s.heap.size = A at hD ⊢
  have hA : ∀ q : Nat, s.heap.size ≤ q → A q := fun q h => by rw [← hAe]; exact Or.inr h
  have hS : va_S A s.heap s.heap [] := va_S.rf
  have hl := lv_entry ([.ref g, .int p0]) (n := 4) (Nat.le_of_ble_eq_true rfl)
  rw [lg_entry_eq]
  generalize (lg_sl ([.ref g, .int p0]) ++ List.replicate (4 - (lg_sl ([.ref g, .int p0])).length) Slot.unset).toArray = ls at hl ⊢
  have hl : lv_has ls 4 [(0, .ref g), (1, .int p0)] := hl
  refine lv_aload_n hx hb dX11_from_0 rfl (lv_at hl 0 rfl) ?_
  refine lv_iload_n hx hb dX11_from_1 rfl (lv_at hl 1 rfl) ?_
  have hPc := hP.sub (ws' := [(g, .inr (11, [.ref g0, .ref g1, .ref g2, .int 0, .ref g4, .ref g5, .ref g6, .ref g7, .ref g8, .ref g9, .ref g10, .ref g11, .ref g12])), (g1, .inr (10, [.int 0, .int 0, .int 0, .ref t3, .ref t4, .ref t5, .ref t6, .int 0, .int 0, .ref t9, .ref t10, .int 0, .ref t12, .ref t13, .ref t14, .ref t15, .int 0, .ref t17, .ref t18, .ref t19]))]) [0, 1] rfl
  have hDc := hD.sub (ws' := [(g, .inr (11, [.ref g0, .ref g1, .ref g2, .int 0, .ref g4, .ref g5, .ref g6, .ref g7, .ref g8, .ref g9, .ref g10, .ref g11, .ref g12])), (g1, .inr (10, [.int 0, .int 0, .int 0, .ref t3, .ref t4, .ref t5, .ref t6, .int 0, .int 0, .ref t9, .ref t10, .int 0, .ref t12, .ref t13, .ref t14, .ref t15, .int 0, .ref t17, .ref t18, .ref t19]))]) [0, 1] (by decide) rfl
  have hFc := va_free (wc := [(g, .inr (11, [.ref g0, .ref g1, .ref g2, .int 0, .ref g4, .ref g5, .ref g6, .ref g7, .ref g8, .ref g9, .ref g10, .ref g11, .ref g12])), (g1, .inr (10, [.int 0, .int 0, .int 0, .ref t3, .ref t4, .ref t5, .ref t6, .int 0, .int 0, .ref t9, .ref t10, .int 0, .ref t12, .ref t13, .ref t14, .ref t15, .int 0, .ref t17, .ref t18, .ref t19]))]) hD hS hA [0, 1] rfl
  refine va_calli (va_runV (C := RX11) (As := [.int p0]) (rest := []) ⟨hx, hb, hml, hown, hts⟩ (c_X11_isStreet l D k g g0 g1 g2 g4 g5 g6 g7 g8 g9 g10 g11 g12 t3 t4 t5 t6 t9 t10 t12 t13 t14 t15 t17 t18 t19 p0 s.heap.size) (cwV 1 hts (gV tw_3_171 tw_3_173 tw_p_18 tw_1_1 tw_3_174) rfl rfl rfl hdV_X11_isStreet ⟨Nat.le_of_ble_eq_true rfl, Nat.le_of_ble_eq_true rfl⟩) (cz_V hK hPc hDc hN (ci := 11) (q0 := 0) rfl rfl [.int p0]) rfl rfl hl.1 rfl (lv_room (Nat.le_of_ble_eq_true rfl)) dX11_from_2 ⟨Nat.le_of_ble_eq_true rfl, Nat.le_of_ble_eq_true rfl⟩) hS (fun q _ h => hFc q h) hFc (fun r_1 uZ tZ H1 locs ht hvm hw hB hz1 hk1 hS => ?_)
  obtain ⟨hP1, hK1, hD1⟩ := hB
  rw [ht] at hP1
  obtain ⟨hP, hD⟩ := va_join (wr := []) (w1 := [(g, .inr (11, [.ref g0, .ref g1, .ref g2, .int 0, .ref g4, .ref g5, .ref g6, .ref g7, .ref g8, .ref g9, .ref g10, .ref g11, .ref g12])), (g1, .inr (10, [.int 0, .int 0, .int 0, .ref t3, .ref t4, .ref t5, .ref t6, .int 0, .int 0, .ref t9, .ref t10, .int 0, .ref t12, .ref t13, .ref t14, .ref t15, .int 0, .ref t17, .ref t18, .ref t19]))]) hP hD [0, 1] [] rfl rfl (by decide) (by decide) hk1 hFc hP1 hD1
  clear hK1 hP1 hD1 hPc hDc hFc
  clear hk1 hz1 ht hvm
  have hP : va_P D vwCl [(g, .inr (11, [.ref g0, .ref g1, .ref g2, .int 0, .ref g4, .ref g5, .ref g6, .ref g7, .ref g8, .ref g9, .ref g10, .ref g11, .ref g12])), (g1, .inr (10, [.int 0, .int 0, .int 0, .ref t3, .ref t4, .ref t5, .ref t6, .int 0, .int 0, .ref t9, .ref t10, .int 0, .ref t12, .ref t13, .ref t14, .ref t15, .int 0, .ref t17, .ref t18, .ref t19]))] H1 := hP
  have hD : va_D A [(g, .inr (11, [.ref g0, .ref g1, .ref g2, .int 0, .ref g4, .ref g5, .ref g6, .ref g7, .ref g8, .ref g9, .ref g10, .ref g11, .ref g12])), (g1, .inr (10, [.int 0, .int 0, .int 0, .ref t3, .ref t4, .ref t5, .ref t6, .int 0, .int 0, .ref t9, .ref t10, .int 0, .ref t12, .ref t13, .ref t14, .ref t15, .int 0, .ref t17, .ref t18, .ref t19]))] := hD
  generalize H1 = H at hP hS ⊢
  obtain rfl : r_1 = 0 := hw
  refine lv_if_ne (tgt := 11) hx hb dX11_from_5 (by decide) (fun c9 => absurd c9 (by decide)) (fun _ => ?_)
  refine lv_bipush (v := (-2)) hx hb dX11_from_8 (by decide) ?_
  have hP9 := hP.sub (ws' := [(g, .inr (11, [.ref g0, .ref g1, .ref g2, .int 0, .ref g4, .ref g5, .ref g6, .ref g7, .ref g8, .ref g9, .ref g10, .ref g11, .ref g12])), (g1, .inr (10, [.int 0, .int 0, .int 0, .ref t3, .ref t4, .ref t5, .ref t6, .int 0, .int 0, .ref t9, .ref t10, .int 0, .ref t12, .ref t13, .ref t14, .ref t15, .int 0, .ref t17, .ref t18, .ref t19]))]) [0, 1] rfl
  have hD9 := hD.sub (ws' := [(g, .inr (11, [.ref g0, .ref g1, .ref g2, .int 0, .ref g4, .ref g5, .ref g6, .ref g7, .ref g8, .ref g9, .ref g10, .ref g11, .ref g12])), (g1, .inr (10, [.int 0, .int 0, .int 0, .ref t3, .ref t4, .ref t5, .ref t6, .int 0, .int 0, .ref t9, .ref t10, .int 0, .ref t12, .ref t13, .ref t14, .ref t15, .int 0, .ref t17, .ref t18, .ref t19]))]) [0, 1] (by decide) rfl
  exact W.iret (v := (-2)) hx hb hr (fun tZ ht hW => ⟨⟨(-2), (), rfl, rfl, by rw [ht]; exact hP9, va_K.moved hW.alike hK, hD9⟩, hS.F ht⟩) hS.2.2 dX11_from_10
set_option maxHeartbeats 4000000 in
set_option maxRecDepth 100000 in
theorem c_X11_by (l : Launch) (D : va_G) (k : Nat → ClassId) (g : Nat) (g0 : Nat) (g1 : Nat) (g2 : Nat) (g4 : Nat) (g5 : Nat) (g6 : Nat) (g7 : Nat) (g8 : Nat) (g9 : Nat) (g10 : Nat) (g11 : Nat) (g12 : Nat) (t3 : Nat) (t4 : Nat) (t5 : Nat) (t6 : Nat) (t9 : Nat) (t10 : Nat) (t12 : Nat) (t13 : Nat) (t14 : Nat) (t15 : Nat) (t17 : Nat) (t18 : Nat) (t19 : Nat) (p0 : Int32) (sz : Nat) : Met l yX11_by (ww yX11_by cX11_by 2 (some .int)) ({ frames := 1, cells := 0, slots := 0, locals := 21 }) (Pre0 D k [(g, .inr (11, [.ref g0, .ref g1, .ref g2, .int 0, .ref g4, .ref g5, .ref g6, .ref g7, .ref g8, .ref g9, .ref g10, .ref g11, .ref g12])), (g1, .inr (10, [.int 0, .int 0, .int 0, .ref t3, .ref t4, .ref t5, .ref t6, .int 0, .int 0, .ref t9, .ref t10, .int 0, .ref t12, .ref t13, .ref t14, .ref t15, .int 0, .ref t17, .ref t18, .ref t19]))] sz [.ref g, .int p0]) (va_Qi (fun (r : Int32) (_ : Unit) => r = (-2)) (fun (_ : Unit) tZ => Bw D k (va_A [(g, .inr (11, [.ref g0, .ref g1, .ref g2, .int 0, .ref g4, .ref g5, .ref g6, .ref g7, .ref g8, .ref g9, .ref g10, .ref g11, .ref g12])), (g1, .inr (10, [.int 0, .int 0, .int 0, .ref t3, .ref t4, .ref t5, .ref t6, .int 0, .int 0, .ref t9, .ref t10, .int 0, .ref t12, .ref t13, .ref t14, .ref t15, .int 0, .ref t17, .ref t18, .ref t19]))] sz) [(g, .inr (11, [.ref g0, .ref g1, .ref g2, .int 0, .ref g4, .ref g5, .ref g6, .ref g7, .ref g8, .ref g9, .ref g10, .ref g11, .ref g12])), (g1, .inr (10, [.int 0, .int 0, .int 0, .ref t3, .ref t4, .ref t5, .ref t6, .int 0, .int 0, .ref t9, .ref t10, .int 0, .ref t12, .ref t13, .ref t14, .ref t15, .int 0, .ref t17, .ref t18, .ref t19]))] tZ) (va_A [(g, .inr (11, [.ref g0, .ref g1, .ref g2, .int 0, .ref g4, .ref g5, .ref g6, .ref g7, .ref g8, .ref g9, .ref g10, .ref g11, .ref g12])), (g1, .inr (10, [.int 0, .int 0, .int 0, .ref t3, .ref t4, .ref t5, .ref t6, .int 0, .int 0, .ref t9, .ref t10, .int 0, .ref t12, .ref t13, .ref t14, .ref t15, .int 0, .ref t17, .ref t18, .ref t19]))] sz)) 0 0 (va_A [(g, .inr (11, [.ref g0, .ref g1, .ref g2, .int 0, .ref g4, .ref g5, .ref g6, .ref g7, .ref g8, .ref g9, .ref g10, .ref g11, .ref g12])), (g1, .inr (10, [.int 0, .int 0, .int 0, .ref t3, .ref t4, .ref t5, .ref t6, .int 0, .int 0, .ref t9, .ref t10, .int 0, .ref t12, .ref t13, .ref t14, .ref t15, .int 0, .ref t17, .ref t18, .ref t19]))] sz) := by
  refine Met.ofW (cc := cX11_by) (maxL := 2) (ret := (some .int)) (by decide +kernel) rfl ?_
  intro p e s m args below meth c s₁ B hml hv
  obtain ⟨rfl, hsz, hP, hK, hD0, hN⟩ := hv
  have hx := B.exec
  have hb := B.bytes
  have hr := B.returns
  have hts : ∀ w ∈ TT, w.before _ s = true := fun w h => atoms_spec (ws := ww yX11_by cX11_by 2 (some .int)) B.pre w (List.mem_cons_of_mem _ h)
  have hown : s.vm.findClass RX11 = some m.cls := findClass_of_methodNamed B.named
  have hlocks := B.notSynchronized
  subst hsz
  have hD := hD0.self (sz := s.heap.size)
  generalize hAe : va_A [(g, .inr (11, [.ref g0, .ref g1, .ref g2, .int 0, .ref g4, .ref g5, .ref g6, .ref g7, .ref g8, .ref g9, .ref g10, .ref g11, .ref g12])), (g1, .inr (10, [.int 0, .int 0, .int 0, .ref t3, .ref t4, .ref t5, .ref t6, .int 0, .int 0, .ref t9, .ref t10, .int 0, .ref t12, .ref t13, .ref t14, .ref t15, .int 0, .ref t17, .ref t18, .ref t19]))] s.heap.size = A at hD ⊢
  have hA : ∀ q : Nat, s.heap.size ≤ q → A q := fun q h => by rw [← hAe]; exact Or.inr h
  have hS : va_S A s.heap s.heap [] := va_S.rf
  have hl := lv_entry ([.ref g, .int p0]) (n := 2) (Nat.le_of_ble_eq_true rfl)
  rw [lg_entry_eq]
  generalize (lg_sl ([.ref g, .int p0]) ++ List.replicate (2 - (lg_sl ([.ref g, .int p0])).length) Slot.unset).toArray = ls at hl ⊢
  have hl : lv_has ls 2 [(0, .ref g), (1, .int p0)] := hl
  refine lv_aload_n hx hb dX11_by_0 rfl (lv_at hl 0 rfl) ?_
  refine lv_iload_n hx hb dX11_by_1 rfl (lv_at hl 1 rfl) ?_
  have hPc := hP.sub (ws' := [(g, .inr (11, [.ref g0, .ref g1, .ref g2, .int 0, .ref g4, .ref g5, .ref g6, .ref g7, .ref g8, .ref g9, .ref g10, .ref g11, .ref g12])), (g1, .inr (10, [.int 0, .int 0, .int 0, .ref t3, .ref t4, .ref t5, .ref t6, .int 0, .int 0, .ref t9, .ref t10, .int 0, .ref t12, .ref t13, .ref t14, .ref t15, .int 0, .ref t17, .ref t18, .ref t19]))]) [0, 1] rfl
  have hDc := hD.sub (ws' := [(g, .inr (11, [.ref g0, .ref g1, .ref g2, .int 0, .ref g4, .ref g5, .ref g6, .ref g7, .ref g8, .ref g9, .ref g10, .ref g11, .ref g12])), (g1, .inr (10, [.int 0, .int 0, .int 0, .ref t3, .ref t4, .ref t5, .ref t6, .int 0, .int 0, .ref t9, .ref t10, .int 0, .ref t12, .ref t13, .ref t14, .ref t15, .int 0, .ref t17, .ref t18, .ref t19]))]) [0, 1] (by decide) rfl
  have hFc := va_free (wc := [(g, .inr (11, [.ref g0, .ref g1, .ref g2, .int 0, .ref g4, .ref g5, .ref g6, .ref g7, .ref g8, .ref g9, .ref g10, .ref g11, .ref g12])), (g1, .inr (10, [.int 0, .int 0, .int 0, .ref t3, .ref t4, .ref t5, .ref t6, .int 0, .int 0, .ref t9, .ref t10, .int 0, .ref t12, .ref t13, .ref t14, .ref t15, .int 0, .ref t17, .ref t18, .ref t19]))]) hD hS hA [0, 1] rfl
  refine va_calli (va_runV (C := RX11) (As := [.int p0]) (rest := []) ⟨hx, hb, hml, hown, hts⟩ (c_X11_isStreet l D k g g0 g1 g2 g4 g5 g6 g7 g8 g9 g10 g11 g12 t3 t4 t5 t6 t9 t10 t12 t13 t14 t15 t17 t18 t19 p0 s.heap.size) (cwV 1 hts (gV tw_3_171 tw_3_173 tw_p_18 tw_1_1 tw_3_174) rfl rfl rfl hdV_X11_isStreet ⟨Nat.le_of_ble_eq_true rfl, Nat.le_of_ble_eq_true rfl⟩) (cz_V hK hPc hDc hN (ci := 11) (q0 := 0) rfl rfl [.int p0]) rfl rfl hl.1 rfl (lv_room (Nat.le_of_ble_eq_true rfl)) dX11_by_2 ⟨Nat.le_of_ble_eq_true rfl, Nat.le_of_ble_eq_true rfl⟩) hS (fun q _ h => hFc q h) hFc (fun r_1 uZ tZ H1 locs ht hvm hw hB hz1 hk1 hS => ?_)
  obtain ⟨hP1, hK1, hD1⟩ := hB
  rw [ht] at hP1
  obtain ⟨hP, hD⟩ := va_join (wr := []) (w1 := [(g, .inr (11, [.ref g0, .ref g1, .ref g2, .int 0, .ref g4, .ref g5, .ref g6, .ref g7, .ref g8, .ref g9, .ref g10, .ref g11, .ref g12])), (g1, .inr (10, [.int 0, .int 0, .int 0, .ref t3, .ref t4, .ref t5, .ref t6, .int 0, .int 0, .ref t9, .ref t10, .int 0, .ref t12, .ref t13, .ref t14, .ref t15, .int 0, .ref t17, .ref t18, .ref t19]))]) hP hD [0, 1] [] rfl rfl (by decide) (by decide) hk1 hFc hP1 hD1
  clear hK1 hP1 hD1 hPc hDc hFc
  clear hk1 hz1 ht hvm
  have hP : va_P D vwCl [(g, .inr (11, [.ref g0, .ref g1, .ref g2, .int 0, .ref g4, .ref g5, .ref g6, .ref g7, .ref g8, .ref g9, .ref g10, .ref g11, .ref g12])), (g1, .inr (10, [.int 0, .int 0, .int 0, .ref t3, .ref t4, .ref t5, .ref t6, .int 0, .int 0, .ref t9, .ref t10, .int 0, .ref t12, .ref t13, .ref t14, .ref t15, .int 0, .ref t17, .ref t18, .ref t19]))] H1 := hP
  have hD : va_D A [(g, .inr (11, [.ref g0, .ref g1, .ref g2, .int 0, .ref g4, .ref g5, .ref g6, .ref g7, .ref g8, .ref g9, .ref g10, .ref g11, .ref g12])), (g1, .inr (10, [.int 0, .int 0, .int 0, .ref t3, .ref t4, .ref t5, .ref t6, .int 0, .int 0, .ref t9, .ref t10, .int 0, .ref t12, .ref t13, .ref t14, .ref t15, .int 0, .ref t17, .ref t18, .ref t19]))] := hD
  generalize H1 = H at hP hS ⊢
  obtain rfl : r_1 = 0 := hw
  refine lv_if_ne (tgt := 11) hx hb dX11_by_5 (by decide) (fun c9 => absurd c9 (by decide)) (fun _ => ?_)
  refine lv_bipush (v := (-2)) hx hb dX11_by_8 (by decide) ?_
  have hP9 := hP.sub (ws' := [(g, .inr (11, [.ref g0, .ref g1, .ref g2, .int 0, .ref g4, .ref g5, .ref g6, .ref g7, .ref g8, .ref g9, .ref g10, .ref g11, .ref g12])), (g1, .inr (10, [.int 0, .int 0, .int 0, .ref t3, .ref t4, .ref t5, .ref t6, .int 0, .int 0, .ref t9, .ref t10, .int 0, .ref t12, .ref t13, .ref t14, .ref t15, .int 0, .ref t17, .ref t18, .ref t19]))]) [0, 1] rfl
  have hD9 := hD.sub (ws' := [(g, .inr (11, [.ref g0, .ref g1, .ref g2, .int 0, .ref g4, .ref g5, .ref g6, .ref g7, .ref g8, .ref g9, .ref g10, .ref g11, .ref g12])), (g1, .inr (10, [.int 0, .int 0, .int 0, .ref t3, .ref t4, .ref t5, .ref t6, .int 0, .int 0, .ref t9, .ref t10, .int 0, .ref t12, .ref t13, .ref t14, .ref t15, .int 0, .ref t17, .ref t18, .ref t19]))]) [0, 1] (by decide) rfl
  exact W.iret (v := (-2)) hx hb hr (fun tZ ht hW => ⟨⟨(-2), (), rfl, rfl, by rw [ht]; exact hP9, va_K.moved hW.alike hK, hD9⟩, hS.F ht⟩) hS.2.2 dX11_by_10
set_option maxHeartbeats 4000000 in
set_option maxRecDepth 100000 in
theorem c_X11_light (l : Launch) (D : va_G) (k : Nat → ClassId) (g : Nat) (g0 : Nat) (g1 : Nat) (g2 : Nat) (g4 : Nat) (g5 : Nat) (g6 : Nat) (g7 : Nat) (g8 : Nat) (g9 : Nat) (g10 : Nat) (g11 : Nat) (g12 : Nat) (t3 : Nat) (t4 : Nat) (t5 : Nat) (t6 : Nat) (t9 : Nat) (t10 : Nat) (t12 : Nat) (t13 : Nat) (t14 : Nat) (t15 : Nat) (t17 : Nat) (t18 : Nat) (t19 : Nat) (p0 : Int32) (sz : Nat) : Met l yX11_light (ww yX11_light cX11_light 4 (some .int)) ({ frames := 1, cells := 0, slots := 0, locals := 20 }) (Pre0 D k [(g, .inr (11, [.ref g0, .ref g1, .ref g2, .int 0, .ref g4, .ref g5, .ref g6, .ref g7, .ref g8, .ref g9, .ref g10, .ref g11, .ref g12])), (g1, .inr (10, [.int 0, .int 0, .int 0, .ref t3, .ref t4, .ref t5, .ref t6, .int 0, .int 0, .ref t9, .ref t10, .int 0, .ref t12, .ref t13, .ref t14, .ref t15, .int 0, .ref t17, .ref t18, .ref t19]))] sz [.ref g, .int p0]) (va_Qi (fun (r : Int32) (_ : Unit) => r = (-2)) (fun (_ : Unit) tZ => Bw D k (va_A [(g, .inr (11, [.ref g0, .ref g1, .ref g2, .int 0, .ref g4, .ref g5, .ref g6, .ref g7, .ref g8, .ref g9, .ref g10, .ref g11, .ref g12])), (g1, .inr (10, [.int 0, .int 0, .int 0, .ref t3, .ref t4, .ref t5, .ref t6, .int 0, .int 0, .ref t9, .ref t10, .int 0, .ref t12, .ref t13, .ref t14, .ref t15, .int 0, .ref t17, .ref t18, .ref t19]))] sz) [(g, .inr (11, [.ref g0, .ref g1, .ref g2, .int 0, .ref g4, .ref g5, .ref g6, .ref g7, .ref g8, .ref g9, .ref g10, .ref g11, .ref g12])), (g1, .inr (10, [.int 0, .int 0, .int 0, .ref t3, .ref t4, .ref t5, .ref t6, .int 0, .int 0, .ref t9, .ref t10, .int 0, .ref t12, .ref t13, .ref t14, .ref t15, .int 0, .ref t17, .ref t18, .ref t19]))] tZ) (va_A [(g, .inr (11, [.ref g0, .ref g1, .ref g2, .int 0, .ref g4, .ref g5, .ref g6, .ref g7, .ref g8, .ref g9, .ref g10, .ref g11, .ref g12])), (g1, .inr (10, [.int 0, .int 0, .int 0, .ref t3, .ref t4, .ref t5, .ref t6, .int 0, .int 0, .ref t9, .ref t10, .int 0, .ref t12, .ref t13, .ref t14, .ref t15, .int 0, .ref t17, .ref t18, .ref t19]))] sz)) 0 0 (va_A [(g, .inr (11, [.ref g0, .ref g1, .ref g2, .int 0, .ref g4, .ref g5, .ref g6, .ref g7, .ref g8, .ref g9, .ref g10, .ref g11, .ref g12])), (g1, .inr (10, [.int 0, .int 0, .int 0, .ref t3, .ref t4, .ref t5, .ref t6, .int 0, .int 0, .ref t9, .ref t10, .int 0, .ref t12, .ref t13, .ref t14, .ref t15, .int 0, .ref t17, .ref t18, .ref t19]))] sz) := by
  refine Met.ofW (cc := cX11_light) (maxL := 4) (ret := (some .int)) (by decide +kernel) rfl ?_
  intro p e s m args below meth c s₁ B hml hv
  obtain ⟨rfl, hsz, hP, hK, hD0, hN⟩ := hv
  have hx := B.exec
  have hb := B.bytes
  have hr := B.returns
  have hts : ∀ w ∈ TT, w.before _ s = true := fun w h => atoms_spec (ws := ww yX11_light cX11_light 4 (some .int)) B.pre w (List.mem_cons_of_mem _ h)
  have hown : s.vm.findClass RX11 = some m.cls := findClass_of_methodNamed B.named
  have hlocks := B.notSynchronized
  subst hsz
  have hD := hD0.self (sz := s.heap.size)
  generalize hAe : va_A [(g, .inr (11, [.ref g0, .ref g1, .ref g2, .int 0, .ref g4, .ref g5, .ref g6, .ref g7, .ref g8, .ref g9, .ref g10, .ref g11, .ref g12])), (g1, .inr (10, [.int 0, .int 0, .int 0, .ref t3, .ref t4, .ref t5, .ref t6, .int 0, .int 0, .ref t9, .ref t10, .int 0, .ref t12, .ref t13, .ref t14, .ref t15, .int 0, .ref t17, .ref t18, .ref t19]))] s.heap.size = A at hD ⊢
  have hA : ∀ q : Nat, s.heap.size ≤ q → A q := fun q h => by rw [← hAe]; exact Or.inr h
  have hS : va_S A s.heap s.heap [] := va_S.rf
  have hl := lv_entry ([.ref g, .int p0]) (n := 4) (Nat.le_of_ble_eq_true rfl)
  rw [lg_entry_eq]
  generalize (lg_sl ([.ref g, .int p0]) ++ List.replicate (4 - (lg_sl ([.ref g, .int p0])).length) Slot.unset).toArray = ls at hl ⊢
  have hl : lv_has ls 4 [(0, .ref g), (1, .int p0)] := hl
  refine lv_aload_n hx hb dX11_light_0 rfl (lv_at hl 0 rfl) ?_
  have hPc := hP.sub (ws' := [(g, .inr (11, [.ref g0, .ref g1, .ref g2, .int 0, .ref g4, .ref g5, .ref g6, .ref g7, .ref g8, .ref g9, .ref g10, .ref g11, .ref g12])), (g1, .inr (10, [.int 0, .int 0, .int 0, .ref t3, .ref t4, .ref t5, .ref t6, .int 0, .int 0, .ref t9, .ref t10, .int 0, .ref t12, .ref t13, .ref t14, .ref t15, .int 0, .ref t17, .ref t18, .ref t19]))]) [0, 1] rfl
  have hDc := hD.sub (ws' := [(g, .inr (11, [.ref g0, .ref g1, .ref g2, .int 0, .ref g4, .ref g5, .ref g6, .ref g7, .ref g8, .ref g9, .ref g10, .ref g11, .ref g12])), (g1, .inr (10, [.int 0, .int 0, .int 0, .ref t3, .ref t4, .ref t5, .ref t6, .int 0, .int 0, .ref t9, .ref t10, .int 0, .ref t12, .ref t13, .ref t14, .ref t15, .int 0, .ref t17, .ref t18, .ref t19]))]) [0, 1] (by decide) rfl
  have hFc := va_free (wc := [(g, .inr (11, [.ref g0, .ref g1, .ref g2, .int 0, .ref g4, .ref g5, .ref g6, .ref g7, .ref g8, .ref g9, .ref g10, .ref g11, .ref g12])), (g1, .inr (10, [.int 0, .int 0, .int 0, .ref t3, .ref t4, .ref t5, .ref t6, .int 0, .int 0, .ref t9, .ref t10, .int 0, .ref t12, .ref t13, .ref t14, .ref t15, .int 0, .ref t17, .ref t18, .ref t19]))]) hD hS hA [0, 1] rfl
  refine va_calli (va_runV (C := RX11) (As := []) (rest := []) ⟨hx, hb, hml, hown, hts⟩ (c_X11_hasNoTown l D k g g0 g1 g2 g4 g5 g6 g7 g8 g9 g10 g11 g12 t3 t4 t5 t6 t9 t10 t12 t13 t14 t15 t17 t18 t19 s.heap.size) (cwV 0 hts (gV tw_3_235 tw_3_237 tw_p_23 tw_1_1 tw_3_238) rfl rfl rfl hdV_X11_hasNoTown ⟨Nat.le_of_ble_eq_true rfl, Nat.le_of_ble_eq_true rfl⟩) (cz_V hK hPc hDc hN (ci := 11) (q0 := 0) rfl rfl []) rfl rfl hl.1 rfl (lv_room (Nat.le_of_ble_eq_true rfl)) dX11_light_1 ⟨Nat.le_of_ble_eq_true rfl, Nat.le_of_ble_eq_true rfl⟩) hS (fun q _ h => hFc q h) hFc (fun r_1 uZ tZ H1 locs ht hvm hw hB hz1 hk1 hS => ?_)
  obtain ⟨hP1, hK1, hD1⟩ := hB
  rw [ht] at hP1
  obtain ⟨hP, hD⟩ := va_join (wr := []) (w1 := [(g, .inr (11, [.ref g0, .ref g1, .ref g2, .int 0, .ref g4, .ref g5, .ref g6, .ref g7, .ref g8, .ref g9, .ref g10, .ref g11, .ref g12])), (g1, .inr (10, [.int 0, .int 0, .int 0, .ref t3, .ref t4, .ref t5, .ref t6, .int 0, .int 0, .ref t9, .ref t10, .int 0, .ref t12, .ref t13, .ref t14, .ref t15, .int 0, .ref t17, .ref t18, .ref t19]))]) hP hD [0, 1] [] rfl rfl (by decide) (by decide) hk1 hFc hP1 hD1
  clear hK1 hP1 hD1 hPc hDc hFc
  clear hk1 hz1 ht hvm
  have hP : va_P D vwCl [(g, .inr (11, [.ref g0, .ref g1, .ref g2, .int 0, .ref g4, .ref g5, .ref g6, .ref g7, .ref g8, .ref g9, .ref g10, .ref g11, .ref g12])), (g1, .inr (10, [.int 0, .int 0, .int 0, .ref t3, .ref t4, .ref t5, .ref t6, .int 0, .int 0, .ref t9, .ref t10, .int 0, .ref t12, .ref t13, .ref t14, .ref t15, .int 0, .ref t17, .ref t18, .ref t19]))] H1 := hP
  have hD : va_D A [(g, .inr (11, [.ref g0, .ref g1, .ref g2, .int 0, .ref g4, .ref g5, .ref g6, .ref g7, .ref g8, .ref g9, .ref g10, .ref g11, .ref g12])), (g1, .inr (10, [.int 0, .int 0, .int 0, .ref t3, .ref t4, .ref t5, .ref t6, .int 0, .int 0, .ref t9, .ref t10, .int 0, .ref t12, .ref t13, .ref t14, .ref t15, .int 0, .ref t17, .ref t18, .ref t19]))] := hD
  generalize H1 = H at hP hS ⊢
  obtain rfl : r_1 = 1 := hw
  refine lv_if_ne (tgt := 14) hx hb dX11_light_4 (by decide) (fun _ => ?_) (fun c9 => absurd c9 (by decide))
  refine lv_bipush (v := (-2)) hx hb dX11_light_14 (by decide) ?_
  have hP9 := hP.sub (ws' := [(g, .inr (11, [.ref g0, .ref g1, .ref g2, .int 0, .ref g4, .ref g5, .ref g6, .ref g7, .ref g8, .ref g9, .ref g10, .ref g11, .ref g12])), (g1, .inr (10, [.int 0, .int 0, .int 0, .ref t3, .ref t4, .ref t5, .ref t6, .int 0, .int 0, .ref t9, .ref t10, .int 0, .ref t12, .ref t13, .ref t14, .ref t15, .int 0, .ref t17, .ref t18, .ref t19]))]) [0, 1] rfl
  have hD9 := hD.sub (ws' := [(g, .inr (11, [.ref g0, .ref g1, .ref g2, .int 0, .ref g4, .ref g5, .ref g6, .ref g7, .ref g8, .ref g9, .ref g10, .ref g11, .ref g12])), (g1, .inr (10, [.int 0, .int 0, .int 0, .ref t3, .ref t4, .ref t5, .ref t6, .int 0, .int 0, .ref t9, .ref t10, .int 0, .ref t12, .ref t13, .ref t14, .ref t15, .int 0, .ref t17, .ref t18, .ref t19]))]) [0, 1] (by decide) rfl
  exact W.iret (v := (-2)) hx hb hr (fun tZ ht hW => ⟨⟨(-2), (), rfl, rfl, by rw [ht]; exact hP9, va_K.moved hW.alike hK, hD9⟩, hS.F ht⟩) hS.2.2 dX11_light_16
set_option maxHeartbeats 4000000 in
set_option maxRecDepth 100000 in
theorem c_X11_full (l : Launch) (D : va_G) (k : Nat → ClassId) (g : Nat) (g0 : Nat) (g1 : Nat) (g2 : Nat) (g4 : Nat) (g5 : Nat) (g6 : Nat) (g7 : Nat) (g8 : Nat) (g9 : Nat) (g10 : Nat) (g11 : Nat) (g12 : Nat) (t3 : Nat) (t4 : Nat) (t5 : Nat) (t6 : Nat) (t9 : Nat) (t10 : Nat) (t12 : Nat) (t13 : Nat) (t14 : Nat) (t15 : Nat) (t17 : Nat) (t18 : Nat) (t19 : Nat) (sz : Nat) : Met l yX11_full (ww yX11_full cX11_full 1 (some .int)) ({ frames := 1, cells := 0, slots := 0, locals := 20 }) (Pre0 D k [(g, .inr (11, [.ref g0, .ref g1, .ref g2, .int 0, .ref g4, .ref g5, .ref g6, .ref g7, .ref g8, .ref g9, .ref g10, .ref g11, .ref g12])), (g1, .inr (10, [.int 0, .int 0, .int 0, .ref t3, .ref t4, .ref t5, .ref t6, .int 0, .int 0, .ref t9, .ref t10, .int 0, .ref t12, .ref t13, .ref t14, .ref t15, .int 0, .ref t17, .ref t18, .ref t19]))] sz [.ref g]) (va_Qi (fun (r : Int32) (_ : Unit) => r = (-2)) (fun (_ : Unit) tZ => Bw D k (va_A [(g, .inr (11, [.ref g0, .ref g1, .ref g2, .int 0, .ref g4, .ref g5, .ref g6, .ref g7, .ref g8, .ref g9, .ref g10, .ref g11, .ref g12])), (g1, .inr (10, [.int 0, .int 0, .int 0, .ref t3, .ref t4, .ref t5, .ref t6, .int 0, .int 0, .ref t9, .ref t10, .int 0, .ref t12, .ref t13, .ref t14, .ref t15, .int 0, .ref t17, .ref t18, .ref t19]))] sz) [(g, .inr (11, [.ref g0, .ref g1, .ref g2, .int 0, .ref g4, .ref g5, .ref g6, .ref g7, .ref g8, .ref g9, .ref g10, .ref g11, .ref g12])), (g1, .inr (10, [.int 0, .int 0, .int 0, .ref t3, .ref t4, .ref t5, .ref t6, .int 0, .int 0, .ref t9, .ref t10, .int 0, .ref t12, .ref t13, .ref t14, .ref t15, .int 0, .ref t17, .ref t18, .ref t19]))] tZ) (va_A [(g, .inr (11, [.ref g0, .ref g1, .ref g2, .int 0, .ref g4, .ref g5, .ref g6, .ref g7, .ref g8, .ref g9, .ref g10, .ref g11, .ref g12])), (g1, .inr (10, [.int 0, .int 0, .int 0, .ref t3, .ref t4, .ref t5, .ref t6, .int 0, .int 0, .ref t9, .ref t10, .int 0, .ref t12, .ref t13, .ref t14, .ref t15, .int 0, .ref t17, .ref t18, .ref t19]))] sz)) 0 0 (va_A [(g, .inr (11, [.ref g0, .ref g1, .ref g2, .int 0, .ref g4, .ref g5, .ref g6, .ref g7, .ref g8, .ref g9, .ref g10, .ref g11, .ref g12])), (g1, .inr (10, [.int 0, .int 0, .int 0, .ref t3, .ref t4, .ref t5, .ref t6, .int 0, .int 0, .ref t9, .ref t10, .int 0, .ref t12, .ref t13, .ref t14, .ref t15, .int 0, .ref t17, .ref t18, .ref t19]))] sz) := by
  refine Met.ofW (cc := cX11_full) (maxL := 1) (ret := (some .int)) (by decide +kernel) rfl ?_
  intro p e s m args below meth c s₁ B hml hv
  obtain ⟨rfl, hsz, hP, hK, hD0, hN⟩ := hv
  have hx := B.exec
  have hb := B.bytes
  have hr := B.returns
  have hts : ∀ w ∈ TT, w.before _ s = true := fun w h => atoms_spec (ws := ww yX11_full cX11_full 1 (some .int)) B.pre w (List.mem_cons_of_mem _ h)
  have hown : s.vm.findClass RX11 = some m.cls := findClass_of_methodNamed B.named
  have hlocks := B.notSynchronized
  subst hsz
  have hD := hD0.self (sz := s.heap.size)
  generalize hAe : va_A [(g, .inr (11, [.ref g0, .ref g1, .ref g2, .int 0, .ref g4, .ref g5, .ref g6, .ref g7, .ref g8, .ref g9, .ref g10, .ref g11, .ref g12])), (g1, .inr (10, [.int 0, .int 0, .int 0, .ref t3, .ref t4, .ref t5, .ref t6, .int 0, .int 0, .ref t9, .ref t10, .int 0, .ref t12, .ref t13, .ref t14, .ref t15, .int 0, .ref t17, .ref t18, .ref t19]))] s.heap.size = A at hD ⊢
  have hA : ∀ q : Nat, s.heap.size ≤ q → A q := fun q h => by rw [← hAe]; exact Or.inr h
  have hS : va_S A s.heap s.heap [] := va_S.rf
  have hl := lv_entry ([.ref g]) (n := 1) (Nat.le_of_ble_eq_true rfl)
  rw [lg_entry_eq]
  generalize (lg_sl ([.ref g]) ++ List.replicate (1 - (lg_sl ([.ref g])).length) Slot.unset).toArray = ls at hl ⊢
  have hl : lv_has ls 1 [(0, .ref g)] := hl
  refine lv_aload_n hx hb dX11_full_0 rfl (lv_at hl 0 rfl) ?_
  have hPc := hP.sub (ws' := [(g, .inr (11, [.ref g0, .ref g1, .ref g2, .int 0, .ref g4, .ref g5, .ref g6, .ref g7, .ref g8, .ref g9, .ref g10, .ref g11, .ref g12])), (g1, .inr (10, [.int 0, .int 0, .int 0, .ref t3, .ref t4, .ref t5, .ref t6, .int 0, .int 0, .ref t9, .ref t10, .int 0, .ref t12, .ref t13, .ref t14, .ref t15, .int 0, .ref t17, .ref t18, .ref t19]))]) [0, 1] rfl
  have hDc := hD.sub (ws' := [(g, .inr (11, [.ref g0, .ref g1, .ref g2, .int 0, .ref g4, .ref g5, .ref g6, .ref g7, .ref g8, .ref g9, .ref g10, .ref g11, .ref g12])), (g1, .inr (10, [.int 0, .int 0, .int 0, .ref t3, .ref t4, .ref t5, .ref t6, .int 0, .int 0, .ref t9, .ref t10, .int 0, .ref t12, .ref t13, .ref t14, .ref t15, .int 0, .ref t17, .ref t18, .ref t19]))]) [0, 1] (by decide) rfl
  have hFc := va_free (wc := [(g, .inr (11, [.ref g0, .ref g1, .ref g2, .int 0, .ref g4, .ref g5, .ref g6, .ref g7, .ref g8, .ref g9, .ref g10, .ref g11, .ref g12])), (g1, .inr (10, [.int 0, .int 0, .int 0, .ref t3, .ref t4, .ref t5, .ref t6, .int 0, .int 0, .ref t9, .ref t10, .int 0, .ref t12, .ref t13, .ref t14, .ref t15, .int 0, .ref t17, .ref t18, .ref t19]))]) hD hS hA [0, 1] rfl
  refine va_calli (va_runV (C := RX11) (As := []) (rest := []) ⟨hx, hb, hml, hown, hts⟩ (c_X11_hasNoTown l D k g g0 g1 g2 g4 g5 g6 g7 g8 g9 g10 g11 g12 t3 t4 t5 t6 t9 t10 t12 t13 t14 t15 t17 t18 t19 s.heap.size) (cwV 0 hts (gV tw_3_235 tw_3_237 tw_p_23 tw_1_1 tw_3_238) rfl rfl rfl hdV_X11_hasNoTown ⟨Nat.le_of_ble_eq_true rfl, Nat.le_of_ble_eq_true rfl⟩) (cz_V hK hPc hDc hN (ci := 11) (q0 := 0) rfl rfl []) rfl rfl hl.1 rfl (lv_room (Nat.le_of_ble_eq_true rfl)) dX11_full_1 ⟨Nat.le_of_ble_eq_true rfl, Nat.le_of_ble_eq_true rfl⟩) hS (fun q _ h => hFc q h) hFc (fun r_1 uZ tZ H1 locs ht hvm hw hB hz1 hk1 hS => ?_)
  obtain ⟨hP1, hK1, hD1⟩ := hB
  rw [ht] at hP1
  obtain ⟨hP, hD⟩ := va_join (wr := []) (w1 := [(g, .inr (11, [.ref g0, .ref g1, .ref g2, .int 0, .ref g4, .ref g5, .ref g6, .ref g7, .ref g8, .ref g9, .ref g10, .ref g11, .ref g12])), (g1, .inr (10, [.int 0, .int 0, .int 0, .ref t3, .ref t4, .ref t5, .ref t6, .int 0, .int 0, .ref t9, .ref t10, .int 0, .ref t12, .ref t13, .ref t14, .ref t15, .int 0, .ref t17, .ref t18, .ref t19]))]) hP hD [0, 1] [] rfl rfl (by decide) (by decide) hk1 hFc hP1 hD1
  clear hK1 hP1 hD1 hPc hDc hFc
  clear hk1 hz1 ht hvm
  have hP : va_P D vwCl [(g, .inr (11, [.ref g0, .ref g1, .ref g2, .int 0, .ref g4, .ref g5, .ref g6, .ref g7, .ref g8, .ref g9, .ref g10, .ref g11, .ref g12])), (g1, .inr (10, [.int 0, .int 0, .int 0, .ref t3, .ref t4, .ref t5, .ref t6, .int 0, .int 0, .ref t9, .ref t10, .int 0, .ref t12, .ref t13, .ref t14, .ref t15, .int 0, .ref t17, .ref t18, .ref t19]))] H1 := hP
  have hD : va_D A [(g, .inr (11, [.ref g0, .ref g1, .ref g2, .int 0, .ref g4, .ref g5, .ref g6, .ref g7, .ref g8, .ref g9, .ref g10, .ref g11, .ref g12])), (g1, .inr (10, [.int 0, .int 0, .int 0, .ref t3, .ref t4, .ref t5, .ref t6, .int 0, .int 0, .ref t9, .ref t10, .int 0, .ref t12, .ref t13, .ref t14, .ref t15, .int 0, .ref t17, .ref t18, .ref t19]))] := hD
  generalize H1 = H at hP hS ⊢
  obtain rfl : r_1 = 1 := hw
  refine lv_if_eq (tgt := 10) hx hb dX11_full_4 (by decide) (fun c9 => absurd c9 (by decide)) (fun _ => ?_)
  refine lv_bipush (v := (-2)) hx hb dX11_full_7 (by decide) ?_
  have hP9 := hP.sub (ws' := [(g, .inr (11, [.ref g0, .ref g1, .ref g2, .int 0, .ref g4, .ref g5, .ref g6, .ref g7, .ref g8, .ref g9, .ref g10, .ref g11, .ref g12])), (g1, .inr (10, [.int 0, .int 0, .int 0, .ref t3, .ref t4, .ref t5, .ref t6, .int 0, .int 0, .ref t9, .ref t10, .int 0, .ref t12, .ref t13, .ref t14, .ref t15, .int 0, .ref t17, .ref t18, .ref t19]))]) [0, 1] rfl
  have hD9 := hD.sub (ws' := [(g, .inr (11, [.ref g0, .ref g1, .ref g2, .int 0, .ref g4, .ref g5, .ref g6, .ref g7, .ref g8, .ref g9, .ref g10, .ref g11, .ref g12])), (g1, .inr (10, [.int 0, .int 0, .int 0, .ref t3, .ref t4, .ref t5, .ref t6, .int 0, .int 0, .ref t9, .ref t10, .int 0, .ref t12, .ref t13, .ref t14, .ref t15, .int 0, .ref t17, .ref t18, .ref t19]))]) [0, 1] (by decide) rfl
  exact W.iret (v := (-2)) hx hb hr (fun tZ ht hW => ⟨⟨(-2), (), rfl, rfl, by rw [ht]; exact hP9, va_K.moved hW.alike hK, hD9⟩, hS.F ht⟩) hS.2.2 dX11_full_9
set_option maxHeartbeats 4000000 in
set_option maxRecDepth 100000 in
theorem c_X11_last (l : Launch) (D : va_G) (k : Nat → ClassId) (g : Nat) (g0 : Nat) (g1 : Nat) (g2 : Nat) (g4 : Nat) (g5 : Nat) (g6 : Nat) (g7 : Nat) (g8 : Nat) (g9 : Nat) (g10 : Nat) (g11 : Nat) (g12 : Nat) (t3 : Nat) (t4 : Nat) (t5 : Nat) (t6 : Nat) (t9 : Nat) (t10 : Nat) (t12 : Nat) (t13 : Nat) (t14 : Nat) (t15 : Nat) (t17 : Nat) (t18 : Nat) (t19 : Nat) (sz : Nat) : Met l yX11_last (ww yX11_last cX11_last 5 (some .int)) ({ frames := 1, cells := 0, slots := 0, locals := 20 }) (Pre0 D k [(g, .inr (11, [.ref g0, .ref g1, .ref g2, .int 0, .ref g4, .ref g5, .ref g6, .ref g7, .ref g8, .ref g9, .ref g10, .ref g11, .ref g12])), (g1, .inr (10, [.int 0, .int 0, .int 0, .ref t3, .ref t4, .ref t5, .ref t6, .int 0, .int 0, .ref t9, .ref t10, .int 0, .ref t12, .ref t13, .ref t14, .ref t15, .int 0, .ref t17, .ref t18, .ref t19]))] sz [.ref g]) (va_Qi (fun (r : Int32) (_ : Unit) => r = (-2)) (fun (_ : Unit) tZ => Bw D k (va_A [(g, .inr (11, [.ref g0, .ref g1, .ref g2, .int 0, .ref g4, .ref g5, .ref g6, .ref g7, .ref g8, .ref g9, .ref g10, .ref g11, .ref g12])), (g1, .inr (10, [.int 0, .int 0, .int 0, .ref t3, .ref t4, .ref t5, .ref t6, .int 0, .int 0, .ref t9, .ref t10, .int 0, .ref t12, .ref t13, .ref t14, .ref t15, .int 0, .ref t17, .ref t18, .ref t19]))] sz) [(g, .inr (11, [.ref g0, .ref g1, .ref g2, .int 0, .ref g4, .ref g5, .ref g6, .ref g7, .ref g8, .ref g9, .ref g10, .ref g11, .ref g12])), (g1, .inr (10, [.int 0, .int 0, .int 0, .ref t3, .ref t4, .ref t5, .ref t6, .int 0, .int 0, .ref t9, .ref t10, .int 0, .ref t12, .ref t13, .ref t14, .ref t15, .int 0, .ref t17, .ref t18, .ref t19]))] tZ) (va_A [(g, .inr (11, [.ref g0, .ref g1, .ref g2, .int 0, .ref g4, .ref g5, .ref g6, .ref g7, .ref g8, .ref g9, .ref g10, .ref g11, .ref g12])), (g1, .inr (10, [.int 0, .int 0, .int 0, .ref t3, .ref t4, .ref t5, .ref t6, .int 0, .int 0, .ref t9, .ref t10, .int 0, .ref t12, .ref t13, .ref t14, .ref t15, .int 0, .ref t17, .ref t18, .ref t19]))] sz)) 0 0 (va_A [(g, .inr (11, [.ref g0, .ref g1, .ref g2, .int 0, .ref g4, .ref g5, .ref g6, .ref g7, .ref g8, .ref g9, .ref g10, .ref g11, .ref g12])), (g1, .inr (10, [.int 0, .int 0, .int 0, .ref t3, .ref t4, .ref t5, .ref t6, .int 0, .int 0, .ref t9, .ref t10, .int 0, .ref t12, .ref t13, .ref t14, .ref t15, .int 0, .ref t17, .ref t18, .ref t19]))] sz) := by
  refine Met.ofW (cc := cX11_last) (maxL := 5) (ret := (some .int)) (by decide +kernel) rfl ?_
  intro p e s m args below meth c s₁ B hml hv
  obtain ⟨rfl, hsz, hP, hK, hD0, hN⟩ := hv
  have hx := B.exec
  have hb := B.bytes
  have hr := B.returns
  have hts : ∀ w ∈ TT, w.before _ s = true := fun w h => atoms_spec (ws := ww yX11_last cX11_last 5 (some .int)) B.pre w (List.mem_cons_of_mem _ h)
  have hown : s.vm.findClass RX11 = some m.cls := findClass_of_methodNamed B.named
  have hlocks := B.notSynchronized
  subst hsz
  have hD := hD0.self (sz := s.heap.size)
  generalize hAe : va_A [(g, .inr (11, [.ref g0, .ref g1, .ref g2, .int 0, .ref g4, .ref g5, .ref g6, .ref g7, .ref g8, .ref g9, .ref g10, .ref g11, .ref g12])), (g1, .inr (10, [.int 0, .int 0, .int 0, .ref t3, .ref t4, .ref t5, .ref t6, .int 0, .int 0, .ref t9, .ref t10, .int 0, .ref t12, .ref t13, .ref t14, .ref t15, .int 0, .ref t17, .ref t18, .ref t19]))] s.heap.size = A at hD ⊢
  have hA : ∀ q : Nat, s.heap.size ≤ q → A q := fun q h => by rw [← hAe]; exact Or.inr h
  have hS : va_S A s.heap s.heap [] := va_S.rf
  have hl := lv_entry ([.ref g]) (n := 5) (Nat.le_of_ble_eq_true rfl)
  rw [lg_entry_eq]
  generalize (lg_sl ([.ref g]) ++ List.replicate (5 - (lg_sl ([.ref g])).length) Slot.unset).toArray = ls at hl ⊢
  have hl : lv_has ls 5 [(0, .ref g)] := hl
  refine lv_aload_n hx hb dX11_last_0 rfl (lv_at hl 0 rfl) ?_
  have hPc := hP.sub (ws' := [(g, .inr (11, [.ref g0, .ref g1, .ref g2, .int 0, .ref g4, .ref g5, .ref g6, .ref g7, .ref g8, .ref g9, .ref g10, .ref g11, .ref g12])), (g1, .inr (10, [.int 0, .int 0, .int 0, .ref t3, .ref t4, .ref t5, .ref t6, .int 0, .int 0, .ref t9, .ref t10, .int 0, .ref t12, .ref t13, .ref t14, .ref t15, .int 0, .ref t17, .ref t18, .ref t19]))]) [0, 1] rfl
  have hDc := hD.sub (ws' := [(g, .inr (11, [.ref g0, .ref g1, .ref g2, .int 0, .ref g4, .ref g5, .ref g6, .ref g7, .ref g8, .ref g9, .ref g10, .ref g11, .ref g12])), (g1, .inr (10, [.int 0, .int 0, .int 0, .ref t3, .ref t4, .ref t5, .ref t6, .int 0, .int 0, .ref t9, .ref t10, .int 0, .ref t12, .ref t13, .ref t14, .ref t15, .int 0, .ref t17, .ref t18, .ref t19]))]) [0, 1] (by decide) rfl
  have hFc := va_free (wc := [(g, .inr (11, [.ref g0, .ref g1, .ref g2, .int 0, .ref g4, .ref g5, .ref g6, .ref g7, .ref g8, .ref g9, .ref g10, .ref g11, .ref g12])), (g1, .inr (10, [.int 0, .int 0, .int 0, .ref t3, .ref t4, .ref t5, .ref t6, .int 0, .int 0, .ref t9, .ref t10, .int 0, .ref t12, .ref t13, .ref t14, .ref t15, .int 0, .ref t17, .ref t18, .ref t19]))]) hD hS hA [0, 1] rfl
  refine va_calli (va_runV (C := RX11) (As := []) (rest := []) ⟨hx, hb, hml, hown, hts⟩ (c_X11_hasNoTown l D k g g0 g1 g2 g4 g5 g6 g7 g8 g9 g10 g11 g12 t3 t4 t5 t6 t9 t10 t12 t13 t14 t15 t17 t18 t19 s.heap.size) (cwV 0 hts (gV tw_3_235 tw_3_237 tw_p_23 tw_1_1 tw_3_238) rfl rfl rfl hdV_X11_hasNoTown ⟨Nat.le_of_ble_eq_true rfl, Nat.le_of_ble_eq_true rfl⟩) (cz_V hK hPc hDc hN (ci := 11) (q0 := 0) rfl rfl []) rfl rfl hl.1 rfl (lv_room (Nat.le_of_ble_eq_true rfl)) dX11_last_1 ⟨Nat.le_of_ble_eq_true rfl, Nat.le_of_ble_eq_true rfl⟩) hS (fun q _ h => hFc q h) hFc (fun r_1 uZ tZ H1 locs ht hvm hw hB hz1 hk1 hS => ?_)
  obtain ⟨hP1, hK1, hD1⟩ := hB
  rw [ht] at hP1
  obtain ⟨hP, hD⟩ := va_join (wr := []) (w1 := [(g, .inr (11, [.ref g0, .ref g1, .ref g2, .int 0, .ref g4, .ref g5, .ref g6, .ref g7, .ref g8, .ref g9, .ref g10, .ref g11, .ref g12])), (g1, .inr (10, [.int 0, .int 0, .int 0, .ref t3, .ref t4, .ref t5, .ref t6, .int 0, .int 0, .ref t9, .ref t10, .int 0, .ref t12, .ref t13, .ref t14, .ref t15, .int 0, .ref t17, .ref t18, .ref t19]))]) hP hD [0, 1] [] rfl rfl (by decide) (by decide) hk1 hFc hP1 hD1
  clear hK1 hP1 hD1 hPc hDc hFc
  clear hk1 hz1 ht hvm
  have hP : va_P D vwCl [(g, .inr (11, [.ref g0, .ref g1, .ref g2, .int 0, .ref g4, .ref g5, .ref g6, .ref g7, .ref g8, .ref g9, .ref g10, .ref g11, .ref g12])), (g1, .inr (10, [.int 0, .int 0, .int 0, .ref t3, .ref t4, .ref t5, .ref t6, .int 0, .int 0, .ref t9, .ref t10, .int 0, .ref t12, .ref t13, .ref t14, .ref t15, .int 0, .ref t17, .ref t18, .ref t19]))] H1 := hP
  have hD : va_D A [(g, .inr (11, [.ref g0, .ref g1, .ref g2, .int 0, .ref g4, .ref g5, .ref g6, .ref g7, .ref g8, .ref g9, .ref g10, .ref g11, .ref g12])), (g1, .inr (10, [.int 0, .int 0, .int 0, .ref t3, .ref t4, .ref t5, .ref t6, .int 0, .int 0, .ref t9, .ref t10, .int 0, .ref t12, .ref t13, .ref t14, .ref t15, .int 0, .ref t17, .ref t18, .ref t19]))] := hD
  generalize H1 = H at hP hS ⊢
  obtain rfl : r_1 = 1 := hw
  refine lv_if_eq (tgt := 10) hx hb dX11_last_4 (by decide) (fun c9 => absurd c9 (by decide)) (fun _ => ?_)
  refine lv_bipush (v := (-2)) hx hb dX11_last_7 (by decide) ?_
  have hP9 := hP.sub (ws' := [(g, .inr (11, [.ref g0, .ref g1, .ref g2, .int 0, .ref g4, .ref g5, .ref g6, .ref g7, .ref g8, .ref g9, .ref g10, .ref g11, .ref g12])), (g1, .inr (10, [.int 0, .int 0, .int 0, .ref t3, .ref t4, .ref t5, .ref t6, .int 0, .int 0, .ref t9, .ref t10, .int 0, .ref t12, .ref t13, .ref t14, .ref t15, .int 0, .ref t17, .ref t18, .ref t19]))]) [0, 1] rfl
  have hD9 := hD.sub (ws' := [(g, .inr (11, [.ref g0, .ref g1, .ref g2, .int 0, .ref g4, .ref g5, .ref g6, .ref g7, .ref g8, .ref g9, .ref g10, .ref g11, .ref g12])), (g1, .inr (10, [.int 0, .int 0, .int 0, .ref t3, .ref t4, .ref t5, .ref t6, .int 0, .int 0, .ref t9, .ref t10, .int 0, .ref t12, .ref t13, .ref t14, .ref t15, .int 0, .ref t17, .ref t18, .ref t19]))]) [0, 1] (by decide) rfl
  exact W.iret (v := (-2)) hx hb hr (fun tZ ht hW => ⟨⟨(-2), (), rfl, rfl, by rw [ht]; exact hP9, va_K.moved hW.alike hK, hD9⟩, hS.F ht⟩) hS.2.2 dX11_last_9
set_option maxHeartbeats 4000000 in
set_option maxRecDepth 100000 in
theorem c_X11_idle (l : Launch) (D : va_G) (k : Nat → ClassId) (g : Nat) (g0 : Nat) (g1 : Nat) (g2 : Nat) (g4 : Nat) (g5 : Nat) (g6 : Nat) (g7 : Nat) (g8 : Nat) (g9 : Nat) (g10 : Nat) (g11 : Nat) (g12 : Nat) (t3 : Nat) (t4 : Nat) (t5 : Nat) (t6 : Nat) (t9 : Nat) (t10 : Nat) (t12 : Nat) (t13 : Nat) (t14 : Nat) (t15 : Nat) (t17 : Nat) (t18 : Nat) (t19 : Nat) (sz : Nat) : Met l yX11_idle (ww yX11_idle cX11_idle 3 (some .int)) ({ frames := 1, cells := 0, slots := 0, locals := 20 }) (Pre0 D k [(g, .inr (11, [.ref g0, .ref g1, .ref g2, .int 0, .ref g4, .ref g5, .ref g6, .ref g7, .ref g8, .ref g9, .ref g10, .ref g11, .ref g12])), (g1, .inr (10, [.int 0, .int 0, .int 0, .ref t3, .ref t4, .ref t5, .ref t6, .int 0, .int 0, .ref t9, .ref t10, .int 0, .ref t12, .ref t13, .ref t14, .ref t15, .int 0, .ref t17, .ref t18, .ref t19]))] sz [.ref g]) (va_Qi (fun (r : Int32) (_ : Unit) => r = (-2)) (fun (_ : Unit) tZ => Bw D k (va_A [(g, .inr (11, [.ref g0, .ref g1, .ref g2, .int 0, .ref g4, .ref g5, .ref g6, .ref g7, .ref g8, .ref g9, .ref g10, .ref g11, .ref g12])), (g1, .inr (10, [.int 0, .int 0, .int 0, .ref t3, .ref t4, .ref t5, .ref t6, .int 0, .int 0, .ref t9, .ref t10, .int 0, .ref t12, .ref t13, .ref t14, .ref t15, .int 0, .ref t17, .ref t18, .ref t19]))] sz) [(g, .inr (11, [.ref g0, .ref g1, .ref g2, .int 0, .ref g4, .ref g5, .ref g6, .ref g7, .ref g8, .ref g9, .ref g10, .ref g11, .ref g12])), (g1, .inr (10, [.int 0, .int 0, .int 0, .ref t3, .ref t4, .ref t5, .ref t6, .int 0, .int 0, .ref t9, .ref t10, .int 0, .ref t12, .ref t13, .ref t14, .ref t15, .int 0, .ref t17, .ref t18, .ref t19]))] tZ) (va_A [(g, .inr (11, [.ref g0, .ref g1, .ref g2, .int 0, .ref g4, .ref g5, .ref g6, .ref g7, .ref g8, .ref g9, .ref g10, .ref g11, .ref g12])), (g1, .inr (10, [.int 0, .int 0, .int 0, .ref t3, .ref t4, .ref t5, .ref t6, .int 0, .int 0, .ref t9, .ref t10, .int 0, .ref t12, .ref t13, .ref t14, .ref t15, .int 0, .ref t17, .ref t18, .ref t19]))] sz)) 0 0 (va_A [(g, .inr (11, [.ref g0, .ref g1, .ref g2, .int 0, .ref g4, .ref g5, .ref g6, .ref g7, .ref g8, .ref g9, .ref g10, .ref g11, .ref g12])), (g1, .inr (10, [.int 0, .int 0, .int 0, .ref t3, .ref t4, .ref t5, .ref t6, .int 0, .int 0, .ref t9, .ref t10, .int 0, .ref t12, .ref t13, .ref t14, .ref t15, .int 0, .ref t17, .ref t18, .ref t19]))] sz) := by
  refine Met.ofW (cc := cX11_idle) (maxL := 3) (ret := (some .int)) (by decide +kernel) rfl ?_
  intro p e s m args below meth c s₁ B hml hv
  obtain ⟨rfl, hsz, hP, hK, hD0, hN⟩ := hv
  have hx := B.exec
  have hb := B.bytes
  have hr := B.returns
  have hts : ∀ w ∈ TT, w.before _ s = true := fun w h => atoms_spec (ws := ww yX11_idle cX11_idle 3 (some .int)) B.pre w (List.mem_cons_of_mem _ h)
  have hown : s.vm.findClass RX11 = some m.cls := findClass_of_methodNamed B.named
  have hlocks := B.notSynchronized
  subst hsz
  have hD := hD0.self (sz := s.heap.size)
  generalize hAe : va_A [(g, .inr (11, [.ref g0, .ref g1, .ref g2, .int 0, .ref g4, .ref g5, .ref g6, .ref g7, .ref g8, .ref g9, .ref g10, .ref g11, .ref g12])), (g1, .inr (10, [.int 0, .int 0, .int 0, .ref t3, .ref t4, .ref t5, .ref t6, .int 0, .int 0, .ref t9, .ref t10, .int 0, .ref t12, .ref t13, .ref t14, .ref t15, .int 0, .ref t17, .ref t18, .ref t19]))] s.heap.size = A at hD ⊢
  have hA : ∀ q : Nat, s.heap.size ≤ q → A q := fun q h => by rw [← hAe]; exact Or.inr h
  have hS : va_S A s.heap s.heap [] := va_S.rf
  have hl := lv_entry ([.ref g]) (n := 3) (Nat.le_of_ble_eq_true rfl)
  rw [lg_entry_eq]
  generalize (lg_sl ([.ref g]) ++ List.replicate (3 - (lg_sl ([.ref g])).length) Slot.unset).toArray = ls at hl ⊢
  have hl : lv_has ls 3 [(0, .ref g)] := hl
  refine lv_aload_n hx hb dX11_idle_0 rfl (lv_at hl 0 rfl) ?_
  have hPc := hP.sub (ws' := [(g, .inr (11, [.ref g0, .ref g1, .ref g2, .int 0, .ref g4, .ref g5, .ref g6, .ref g7, .ref g8, .ref g9, .ref g10, .ref g11, .ref g12])), (g1, .inr (10, [.int 0, .int 0, .int 0, .ref t3, .ref t4, .ref t5, .ref t6, .int 0, .int 0, .ref t9, .ref t10, .int 0, .ref t12, .ref t13, .ref t14, .ref t15, .int 0, .ref t17, .ref t18, .ref t19]))]) [0, 1] rfl
  have hDc := hD.sub (ws' := [(g, .inr (11, [.ref g0, .ref g1, .ref g2, .int 0, .ref g4, .ref g5, .ref g6, .ref g7, .ref g8, .ref g9, .ref g10, .ref g11, .ref g12])), (g1, .inr (10, [.int 0, .int 0, .int 0, .ref t3, .ref t4, .ref t5, .ref t6, .int 0, .int 0, .ref t9, .ref t10, .int 0, .ref t12, .ref t13, .ref t14, .ref t15, .int 0, .ref t17, .ref t18, .ref t19]))]) [0, 1] (by decide) rfl
  have hFc := va_free (wc := [(g, .inr (11, [.ref g0, .ref g1, .ref g2, .int 0, .ref g4, .ref g5, .ref g6, .ref g7, .ref g8, .ref g9, .ref g10, .ref g11, .ref g12])), (g1, .inr (10, [.int 0, .int 0, .int 0, .ref t3, .ref t4, .ref t5, .ref t6, .int 0, .int 0, .ref t9, .ref t10, .int 0, .ref t12, .ref t13, .ref t14, .ref t15, .int 0, .ref t17, .ref t18, .ref t19]))]) hD hS hA [0, 1] rfl
  refine va_calli (va_runV (C := RX11) (As := []) (rest := []) ⟨hx, hb, hml, hown, hts⟩ (c_X11_hasNoTown l D k g g0 g1 g2 g4 g5 g6 g7 g8 g9 g10 g11 g12 t3 t4 t5 t6 t9 t10 t12 t13 t14 t15 t17 t18 t19 s.heap.size) (cwV 0 hts (gV tw_3_235 tw_3_237 tw_p_23 tw_1_1 tw_3_238) rfl rfl rfl hdV_X11_hasNoTown ⟨Nat.le_of_ble_eq_true rfl, Nat.le_of_ble_eq_true rfl⟩) (cz_V hK hPc hDc hN (ci := 11) (q0 := 0) rfl rfl []) rfl rfl hl.1 rfl (lv_room (Nat.le_of_ble_eq_true rfl)) dX11_idle_1 ⟨Nat.le_of_ble_eq_true rfl, Nat.le_of_ble_eq_true rfl⟩) hS (fun q _ h => hFc q h) hFc (fun r_1 uZ tZ H1 locs ht hvm hw hB hz1 hk1 hS => ?_)
  obtain ⟨hP1, hK1, hD1⟩ := hB
  rw [ht] at hP1
  obtain ⟨hP, hD⟩ := va_join (wr := []) (w1 := [(g, .inr (11, [.ref g0, .ref g1, .ref g2, .int 0, .ref g4, .ref g5, .ref g6, .ref g7, .ref g8, .ref g9, .ref g10, .ref g11, .ref g12])), (g1, .inr (10, [.int 0, .int 0, .int 0, .ref t3, .ref t4, .ref t5, .ref t6, .int 0, .int 0, .ref t9, .ref t10, .int 0, .ref t12, .ref t13, .ref t14, .ref t15, .int 0, .ref t17, .ref t18, .ref t19]))]) hP hD [0, 1] [] rfl rfl (by decide) (by decide) hk1 hFc hP1 hD1
  clear hK1 hP1 hD1 hPc hDc hFc
  clear hk1 hz1 ht hvm
  have hP : va_P D vwCl [(g, .inr (11, [.ref g0, .ref g1, .ref g2, .int 0, .ref g4, .ref g5, .ref g6, .ref g7, .ref g8, .ref g9, .ref g10, .ref g11, .ref g12])), (g1, .inr (10, [.int 0, .int 0, .int 0, .ref t3, .ref t4, .ref t5, .ref t6, .int 0, .int 0, .ref t9, .ref t10, .int 0, .ref t12, .ref t13, .ref t14, .ref t15, .int 0, .ref t17, .ref t18, .ref t19]))] H1 := hP
  have hD : va_D A [(g, .inr (11, [.ref g0, .ref g1, .ref g2, .int 0, .ref g4, .ref g5, .ref g6, .ref g7, .ref g8, .ref g9, .ref g10, .ref g11, .ref g12])), (g1, .inr (10, [.int 0, .int 0, .int 0, .ref t3, .ref t4, .ref t5, .ref t6, .int 0, .int 0, .ref t9, .ref t10, .int 0, .ref t12, .ref t13, .ref t14, .ref t15, .int 0, .ref t17, .ref t18, .ref t19]))] := hD
  generalize H1 = H at hP hS ⊢
  obtain rfl : r_1 = 1 := hw
  refine lv_if_eq (tgt := 10) hx hb dX11_idle_4 (by decide) (fun c9 => absurd c9 (by decide)) (fun _ => ?_)
  refine lv_bipush (v := (-2)) hx hb dX11_idle_7 (by decide) ?_
  have hP9 := hP.sub (ws' := [(g, .inr (11, [.ref g0, .ref g1, .ref g2, .int 0, .ref g4, .ref g5, .ref g6, .ref g7, .ref g8, .ref g9, .ref g10, .ref g11, .ref g12])), (g1, .inr (10, [.int 0, .int 0, .int 0, .ref t3, .ref t4, .ref t5, .ref t6, .int 0, .int 0, .ref t9, .ref t10, .int 0, .ref t12, .ref t13, .ref t14, .ref t15, .int 0, .ref t17, .ref t18, .ref t19]))]) [0, 1] rfl
  have hD9 := hD.sub (ws' := [(g, .inr (11, [.ref g0, .ref g1, .ref g2, .int 0, .ref g4, .ref g5, .ref g6, .ref g7, .ref g8, .ref g9, .ref g10, .ref g11, .ref g12])), (g1, .inr (10, [.int 0, .int 0, .int 0, .ref t3, .ref t4, .ref t5, .ref t6, .int 0, .int 0, .ref t9, .ref t10, .int 0, .ref t12, .ref t13, .ref t14, .ref t15, .int 0, .ref t17, .ref t18, .ref t19]))]) [0, 1] (by decide) rfl
  exact W.iret (v := (-2)) hx hb hr (fun tZ ht hW => ⟨⟨(-2), (), rfl, rfl, by rw [ht]; exact hP9, va_K.moved hW.alike hK, hD9⟩, hS.F ht⟩) hS.2.2 dX11_idle_9
set_option maxHeartbeats 4000000 in
set_option maxRecDepth 100000 in
theorem c_X11_harm (l : Launch) (D : va_G) (k : Nat → ClassId) (g : Nat) (g0 : Nat) (g1 : Nat) (g2 : Nat) (g4 : Nat) (g5 : Nat) (g6 : Nat) (g7 : Nat) (g8 : Nat) (g9 : Nat) (g10 : Nat) (g11 : Nat) (g12 : Nat) (t3 : Nat) (t4 : Nat) (t5 : Nat) (t6 : Nat) (t9 : Nat) (t10 : Nat) (t12 : Nat) (t13 : Nat) (t14 : Nat) (t15 : Nat) (t17 : Nat) (t18 : Nat) (t19 : Nat) (p0 : Int32) (sz : Nat) : Met l yX11_harm (ww yX11_harm cX11_harm 4 (some .int)) ({ frames := 1, cells := 0, slots := 0, locals := 21 }) (Pre0 D k [(g, .inr (11, [.ref g0, .ref g1, .ref g2, .int 0, .ref g4, .ref g5, .ref g6, .ref g7, .ref g8, .ref g9, .ref g10, .ref g11, .ref g12])), (g1, .inr (10, [.int 0, .int 0, .int 0, .ref t3, .ref t4, .ref t5, .ref t6, .int 0, .int 0, .ref t9, .ref t10, .int 0, .ref t12, .ref t13, .ref t14, .ref t15, .int 0, .ref t17, .ref t18, .ref t19]))] sz [.ref g, .int p0]) (va_Qi (fun (r : Int32) (_ : Unit) => r = (-2)) (fun (_ : Unit) tZ => Bw D k (va_A [(g, .inr (11, [.ref g0, .ref g1, .ref g2, .int 0, .ref g4, .ref g5, .ref g6, .ref g7, .ref g8, .ref g9, .ref g10, .ref g11, .ref g12])), (g1, .inr (10, [.int 0, .int 0, .int 0, .ref t3, .ref t4, .ref t5, .ref t6, .int 0, .int 0, .ref t9, .ref t10, .int 0, .ref t12, .ref t13, .ref t14, .ref t15, .int 0, .ref t17, .ref t18, .ref t19]))] sz) [(g, .inr (11, [.ref g0, .ref g1, .ref g2, .int 0, .ref g4, .ref g5, .ref g6, .ref g7, .ref g8, .ref g9, .ref g10, .ref g11, .ref g12])), (g1, .inr (10, [.int 0, .int 0, .int 0, .ref t3, .ref t4, .ref t5, .ref t6, .int 0, .int 0, .ref t9, .ref t10, .int 0, .ref t12, .ref t13, .ref t14, .ref t15, .int 0, .ref t17, .ref t18, .ref t19]))] tZ) (va_A [(g, .inr (11, [.ref g0, .ref g1, .ref g2, .int 0, .ref g4, .ref g5, .ref g6, .ref g7, .ref g8, .ref g9, .ref g10, .ref g11, .ref g12])), (g1, .inr (10, [.int 0, .int 0, .int 0, .ref t3, .ref t4, .ref t5, .ref t6, .int 0, .int 0, .ref t9, .ref t10, .int 0, .ref t12, .ref t13, .ref t14, .ref t15, .int 0, .ref t17, .ref t18, .ref t19]))] sz)) 0 0 (va_A [(g, .inr (11, [.ref g0, .ref g1, .ref g2, .int 0, .ref g4, .ref g5, .ref g6, .ref g7, .ref g8, .ref g9, .ref g10, .ref g11, .ref g12])), (g1, .inr (10, [.int 0, .int 0, .int 0, .ref t3, .ref t4, .ref t5, .ref t6, .int 0, .int 0, .ref t9, .ref t10, .int 0, .ref t12, .ref t13, .ref t14, .ref t15, .int 0, .ref t17, .ref t18, .ref t19]))] sz) := by
  refine Met.ofW (cc := cX11_harm) (maxL := 4) (ret := (some .int)) (by decide +kernel) rfl ?_
  intro p e s m args below meth c s₁ B hml hv
  obtain ⟨rfl, hsz, hP, hK, hD0, hN⟩ := hv
  have hx := B.exec
  have hb := B.bytes
  have hr := B.returns
  have hts : ∀ w ∈ TT, w.before _ s = true := fun w h => atoms_spec (ws := ww yX11_harm cX11_harm 4 (some .int)) B.pre w (List.mem_cons_of_mem _ h)
  have hown : s.vm.findClass RX11 = some m.cls := findClass_of_methodNamed B.named
  have hlocks := B.notSynchronized
  subst hsz
  have hD := hD0.self (sz := s.heap.size)
  generalize hAe : va_A [(g, .inr (11, [.ref g0, .ref g1, .ref g2, .int 0, .ref g4, .ref g5, .ref g6, .ref g7, .ref g8, .ref g9, .ref g10, .ref g11, .ref g12])), (g1, .inr (10, [.int 0, .int 0, .int 0, .ref t3, .ref t4, .ref t5, .ref t6, .int 0, .int 0, .ref t9, .ref t10, .int 0, .ref t12, .ref t13, .ref t14, .ref t15, .int 0, .ref t17, .ref t18, .ref t19]))] s.heap.size = A at hD ⊢
  have hA : ∀ q : Nat, s.heap.size ≤ q → A q := fun q h => by rw [← hAe]; exact Or.inr h
  have hS : va_S A s.heap s.heap [] := va_S.rf
  have hl := lv_entry ([.ref g, .int p0]) (n := 4) (Nat.le_of_ble_eq_true rfl)
  rw [lg_entry_eq]
  generalize (lg_sl ([.ref g, .int p0]) ++ List.replicate (4 - (lg_sl ([.ref g, .int p0])).length) Slot.unset).toArray = ls at hl ⊢
  have hl : lv_has ls 4 [(0, .ref g), (1, .int p0)] := hl
  refine lv_aload_n hx hb dX11_harm_0 rfl (lv_at hl 0 rfl) ?_
  refine lv_iload_n hx hb dX11_harm_1 rfl (lv_at hl 1 rfl) ?_
  have hPc := hP.sub (ws' := [(g, .inr (11, [.ref g0, .ref g1, .ref g2, .int 0, .ref g4, .ref g5, .ref g6, .ref g7, .ref g8, .ref g9, .ref g10, .ref g11, .ref g12])), (g1, .inr (10, [.int 0, .int 0, .int 0, .ref t3, .ref t4, .ref t5, .ref t6, .int 0, .int 0, .ref t9, .ref t10, .int 0, .ref t12, .ref t13, .ref t14, .ref t15, .int 0, .ref t17, .ref t18, .ref t19]))]) [0, 1] rfl
  have hDc := hD.sub (ws' := [(g, .inr (11, [.ref g0, .ref g1, .ref g2, .int 0, .ref g4, .ref g5, .ref g6, .ref g7, .ref g8, .ref g9, .ref g10, .ref g11, .ref g12])), (g1, .inr (10, [.int 0, .int 0, .int 0, .ref t3, .ref t4, .ref t5, .ref t6, .int 0, .int 0, .ref t9, .ref t10, .int 0, .ref t12, .ref t13, .ref t14, .ref t15, .int 0, .ref t17, .ref t18, .ref t19]))]) [0, 1] (by decide) rfl
  have hFc := va_free (wc := [(g, .inr (11, [.ref g0, .ref g1, .ref g2, .int 0, .ref g4, .ref g5, .ref g6, .ref g7, .ref g8, .ref g9, .ref g10, .ref g11, .ref g12])), (g1, .inr (10, [.int 0, .int 0, .int 0, .ref t3, .ref t4, .ref t5, .ref t6, .int 0, .int 0, .ref t9, .ref t10, .int 0, .ref t12, .ref t13, .ref t14, .ref t15, .int 0, .ref t17, .ref t18, .ref t19]))]) hD hS hA [0, 1] rfl
  refine va_calli (va_runV (C := RX11) (As := [.int p0]) (rest := []) ⟨hx, hb, hml, hown, hts⟩ (c_X11_isLane l D k g g0 g1 g2 g4 g5 g6 g7 g8 g9 g10 g11 g12 t3 t4 t5 t6 t9 t10 t12 t13 t14 t15 t17 t18 t19 p0 s.heap.size) (cwV 1 hts (gV tw_3_147 tw_3_149 tw_p_15 tw_1_1 tw_3_150) rfl rfl rfl hdV_X11_isLane ⟨Nat.le_of_ble_eq_true rfl, Nat.le_of_ble_eq_true rfl⟩) (cz_V hK hPc hDc hN (ci := 11) (q0 := 0) rfl rfl [.int p0]) rfl rfl hl.1 rfl (lv_room (Nat.le_of_ble_eq_true rfl)) dX11_harm_2 ⟨Nat.le_of_ble_eq_true rfl, Nat.le_of_ble_eq_true rfl⟩) hS (fun q _ h => hFc q h) hFc (fun r_1 uZ tZ H1 locs ht hvm hw hB hz1 hk1 hS => ?_)
  obtain ⟨hP1, hK1, hD1⟩ := hB
  rw [ht] at hP1
  obtain ⟨hP, hD⟩ := va_join (wr := []) (w1 := [(g, .inr (11, [.ref g0, .ref g1, .ref g2, .int 0, .ref g4, .ref g5, .ref g6, .ref g7, .ref g8, .ref g9, .ref g10, .ref g11, .ref g12])), (g1, .inr (10, [.int 0, .int 0, .int 0, .ref t3, .ref t4, .ref t5, .ref t6, .int 0, .int 0, .ref t9, .ref t10, .int 0, .ref t12, .ref t13, .ref t14, .ref t15, .int 0, .ref t17, .ref t18, .ref t19]))]) hP hD [0, 1] [] rfl rfl (by decide) (by decide) hk1 hFc hP1 hD1
  clear hK1 hP1 hD1 hPc hDc hFc
  clear hk1 hz1 ht hvm
  have hP : va_P D vwCl [(g, .inr (11, [.ref g0, .ref g1, .ref g2, .int 0, .ref g4, .ref g5, .ref g6, .ref g7, .ref g8, .ref g9, .ref g10, .ref g11, .ref g12])), (g1, .inr (10, [.int 0, .int 0, .int 0, .ref t3, .ref t4, .ref t5, .ref t6, .int 0, .int 0, .ref t9, .ref t10, .int 0, .ref t12, .ref t13, .ref t14, .ref t15, .int 0, .ref t17, .ref t18, .ref t19]))] H1 := hP
  have hD : va_D A [(g, .inr (11, [.ref g0, .ref g1, .ref g2, .int 0, .ref g4, .ref g5, .ref g6, .ref g7, .ref g8, .ref g9, .ref g10, .ref g11, .ref g12])), (g1, .inr (10, [.int 0, .int 0, .int 0, .ref t3, .ref t4, .ref t5, .ref t6, .int 0, .int 0, .ref t9, .ref t10, .int 0, .ref t12, .ref t13, .ref t14, .ref t15, .int 0, .ref t17, .ref t18, .ref t19]))] := hD
  generalize H1 = H at hP hS ⊢
  obtain rfl : r_1 = 0 := hw
  refine lv_if_eq (tgt := 16) hx hb dX11_harm_5 (by decide) (fun _ => ?_) (fun c9 => absurd c9 (by decide))
  refine lv_bipush (v := (-2)) hx hb dX11_harm_16 (by decide) ?_
  have hP9 := hP.sub (ws' := [(g, .inr (11, [.ref g0, .ref g1, .ref g2, .int 0, .ref g4, .ref g5, .ref g6, .ref g7, .ref g8, .ref g9, .ref g10, .ref g11, .ref g12])), (g1, .inr (10, [.int 0, .int 0, .int 0, .ref t3, .ref t4, .ref t5, .ref t6, .int 0, .int 0, .ref t9, .ref t10, .int 0, .ref t12, .ref t13, .ref t14, .ref t15, .int 0, .ref t17, .ref t18, .ref t19]))]) [0, 1] rfl
  have hD9 := hD.sub (ws' := [(g, .inr (11, [.ref g0, .ref g1, .ref g2, .int 0, .ref g4, .ref g5, .ref g6, .ref g7, .ref g8, .ref g9, .ref g10, .ref g11, .ref g12])), (g1, .inr (10, [.int 0, .int 0, .int 0, .ref t3, .ref t4, .ref t5, .ref t6, .int 0, .int 0, .ref t9, .ref t10, .int 0, .ref t12, .ref t13, .ref t14, .ref t15, .int 0, .ref t17, .ref t18, .ref t19]))]) [0, 1] (by decide) rfl
  exact W.iret (v := (-2)) hx hb hr (fun tZ ht hW => ⟨⟨(-2), (), rfl, rfl, by rw [ht]; exact hP9, va_K.moved hW.alike hK, hD9⟩, hS.F ht⟩) hS.2.2 dX11_harm_18
set_option maxHeartbeats 4000000 in
set_option maxRecDepth 100000 in
theorem c_X11_whose (l : Launch) (D : va_G) (k : Nat → ClassId) (g : Nat) (g0 : Nat) (g1 : Nat) (g2 : Nat) (g4 : Nat) (g5 : Nat) (g6 : Nat) (g7 : Nat) (g8 : Nat) (g9 : Nat) (g10 : Nat) (g11 : Nat) (g12 : Nat) (t3 : Nat) (t4 : Nat) (t5 : Nat) (t6 : Nat) (t9 : Nat) (t10 : Nat) (t12 : Nat) (t13 : Nat) (t14 : Nat) (t15 : Nat) (t17 : Nat) (t18 : Nat) (t19 : Nat) (p0 : Int32) (sz : Nat) : Met l yX11_whose (ww yX11_whose cX11_whose 2 (some .int)) ({ frames := 1, cells := 0, slots := 0, locals := 21 }) (Pre0 D k [(g, .inr (11, [.ref g0, .ref g1, .ref g2, .int 0, .ref g4, .ref g5, .ref g6, .ref g7, .ref g8, .ref g9, .ref g10, .ref g11, .ref g12])), (g1, .inr (10, [.int 0, .int 0, .int 0, .ref t3, .ref t4, .ref t5, .ref t6, .int 0, .int 0, .ref t9, .ref t10, .int 0, .ref t12, .ref t13, .ref t14, .ref t15, .int 0, .ref t17, .ref t18, .ref t19]))] sz [.ref g, .int p0]) (va_Qi (fun (r : Int32) (_ : Unit) => r = (-2)) (fun (_ : Unit) tZ => Bw D k (va_A [(g, .inr (11, [.ref g0, .ref g1, .ref g2, .int 0, .ref g4, .ref g5, .ref g6, .ref g7, .ref g8, .ref g9, .ref g10, .ref g11, .ref g12])), (g1, .inr (10, [.int 0, .int 0, .int 0, .ref t3, .ref t4, .ref t5, .ref t6, .int 0, .int 0, .ref t9, .ref t10, .int 0, .ref t12, .ref t13, .ref t14, .ref t15, .int 0, .ref t17, .ref t18, .ref t19]))] sz) [(g, .inr (11, [.ref g0, .ref g1, .ref g2, .int 0, .ref g4, .ref g5, .ref g6, .ref g7, .ref g8, .ref g9, .ref g10, .ref g11, .ref g12])), (g1, .inr (10, [.int 0, .int 0, .int 0, .ref t3, .ref t4, .ref t5, .ref t6, .int 0, .int 0, .ref t9, .ref t10, .int 0, .ref t12, .ref t13, .ref t14, .ref t15, .int 0, .ref t17, .ref t18, .ref t19]))] tZ) (va_A [(g, .inr (11, [.ref g0, .ref g1, .ref g2, .int 0, .ref g4, .ref g5, .ref g6, .ref g7, .ref g8, .ref g9, .ref g10, .ref g11, .ref g12])), (g1, .inr (10, [.int 0, .int 0, .int 0, .ref t3, .ref t4, .ref t5, .ref t6, .int 0, .int 0, .ref t9, .ref t10, .int 0, .ref t12, .ref t13, .ref t14, .ref t15, .int 0, .ref t17, .ref t18, .ref t19]))] sz)) 0 0 (va_A [(g, .inr (11, [.ref g0, .ref g1, .ref g2, .int 0, .ref g4, .ref g5, .ref g6, .ref g7, .ref g8, .ref g9, .ref g10, .ref g11, .ref g12])), (g1, .inr (10, [.int 0, .int 0, .int 0, .ref t3, .ref t4, .ref t5, .ref t6, .int 0, .int 0, .ref t9, .ref t10, .int 0, .ref t12, .ref t13, .ref t14, .ref t15, .int 0, .ref t17, .ref t18, .ref t19]))] sz) := by
  refine Met.ofW (cc := cX11_whose) (maxL := 2) (ret := (some .int)) (by decide +kernel) rfl ?_
  intro p e s m args below meth c s₁ B hml hv
  obtain ⟨rfl, hsz, hP, hK, hD0, hN⟩ := hv
  have hx := B.exec
  have hb := B.bytes
  have hr := B.returns
  have hts : ∀ w ∈ TT, w.before _ s = true := fun w h => atoms_spec (ws := ww yX11_whose cX11_whose 2 (some .int)) B.pre w (List.mem_cons_of_mem _ h)
  have hown : s.vm.findClass RX11 = some m.cls := findClass_of_methodNamed B.named
  have hlocks := B.notSynchronized
  subst hsz
  have hD := hD0.self (sz := s.heap.size)
  generalize hAe : va_A [(g, .inr (11, [.ref g0, .ref g1, .ref g2, .int 0, .ref g4, .ref g5, .ref g6, .ref g7, .ref g8, .ref g9, .ref g10, .ref g11, .ref g12])), (g1, .inr (10, [.int 0, .int 0, .int 0, .ref t3, .ref t4, .ref t5, .ref t6, .int 0, .int 0, .ref t9, .ref t10, .int 0, .ref t12, .ref t13, .ref t14, .ref t15, .int 0, .ref t17, .ref t18, .ref t19]))] s.heap.size = A at hD ⊢
  have hA : ∀ q : Nat, s.heap.size ≤ q → A q := fun q h => by rw [← hAe]; exact Or.inr h
  have hS : va_S A s.heap s.heap [] := va_S.rf
  have hl := lv_entry ([.ref g, .int p0]) (n := 2) (Nat.le_of_ble_eq_true rfl)
  rw [lg_entry_eq]
  generalize (lg_sl ([.ref g, .int p0]) ++ List.replicate (2 - (lg_sl ([.ref g, .int p0])).length) Slot.unset).toArray = ls at hl ⊢
  have hl : lv_has ls 2 [(0, .ref g), (1, .int p0)] := hl
  refine lv_aload_n hx hb dX11_whose_0 rfl (lv_at hl 0 rfl) ?_
  refine lv_iload_n hx hb dX11_whose_1 rfl (lv_at hl 1 rfl) ?_
  have hPc := hP.sub (ws' := [(g, .inr (11, [.ref g0, .ref g1, .ref g2, .int 0, .ref g4, .ref g5, .ref g6, .ref g7, .ref g8, .ref g9, .ref g10, .ref g11, .ref g12])), (g1, .inr (10, [.int 0, .int 0, .int 0, .ref t3, .ref t4, .ref t5, .ref t6, .int 0, .int 0, .ref t9, .ref t10, .int 0, .ref t12, .ref t13, .ref t14, .ref t15, .int 0, .ref t17, .ref t18, .ref t19]))]) [0, 1] rfl
  have hDc := hD.sub (ws' := [(g, .inr (11, [.ref g0, .ref g1, .ref g2, .int 0, .ref g4, .ref g5, .ref g6, .ref g7, .ref g8, .ref g9, .ref g10, .ref g11, .ref g12])), (g1, .inr (10, [.int 0, .int 0, .int 0, .ref t3, .ref t4, .ref t5, .ref t6, .int 0, .int 0, .ref t9, .ref t10, .int 0, .ref t12, .ref t13, .ref t14, .ref t15, .int 0, .ref t17, .ref t18, .ref t19]))]) [0, 1] (by decide) rfl
  have hFc := va_free (wc := [(g, .inr (11, [.ref g0, .ref g1, .ref g2, .int 0, .ref g4, .ref g5, .ref g6, .ref g7, .ref g8, .ref g9, .ref g10, .ref g11, .ref g12])), (g1, .inr (10, [.int 0, .int 0, .int 0, .ref t3, .ref t4, .ref t5, .ref t6, .int 0, .int 0, .ref t9, .ref t10, .int 0, .ref t12, .ref t13, .ref t14, .ref t15, .int 0, .ref t17, .ref t18, .ref t19]))]) hD hS hA [0, 1] rfl
  refine va_calli (va_runV (C := RX11) (As := [.int p0]) (rest := []) ⟨hx, hb, hml, hown, hts⟩ (c_X11_isStreet l D k g g0 g1 g2 g4 g5 g6 g7 g8 g9 g10 g11 g12 t3 t4 t5 t6 t9 t10 t12 t13 t14 t15 t17 t18 t19 p0 s.heap.size) (cwV 1 hts (gV tw_3_171 tw_3_173 tw_p_18 tw_1_1 tw_3_174) rfl rfl rfl hdV_X11_isStreet ⟨Nat.le_of_ble_eq_true rfl, Nat.le_of_ble_eq_true rfl⟩) (cz_V hK hPc hDc hN (ci := 11) (q0 := 0) rfl rfl [.int p0]) rfl rfl hl.1 rfl (lv_room (Nat.le_of_ble_eq_true rfl)) dX11_whose_2 ⟨Nat.le_of_ble_eq_true rfl, Nat.le_of_ble_eq_true rfl⟩) hS (fun q _ h => hFc q h) hFc (fun r_1 uZ tZ H1 locs ht hvm hw hB hz1 hk1 hS => ?_)
  obtain ⟨hP1, hK1, hD1⟩ := hB
  rw [ht] at hP1
  obtain ⟨hP, hD⟩ := va_join (wr := []) (w1 := [(g, .inr (11, [.ref g0, .ref g1, .ref g2, .int 0, .ref g4, .ref g5, .ref g6, .ref g7, .ref g8, .ref g9, .ref g10, .ref g11, .ref g12])), (g1, .inr (10, [.int 0, .int 0, .int 0, .ref t3, .ref t4, .ref t5, .ref t6, .int 0, .int 0, .ref t9, .ref t10, .int 0, .ref t12, .ref t13, .ref t14, .ref t15, .int 0, .ref t17, .ref t18, .ref t19]))]) hP hD [0, 1] [] rfl rfl (by decide) (by decide) hk1 hFc hP1 hD1
  clear hK1 hP1 hD1 hPc hDc hFc
  clear hk1 hz1 ht hvm
  have hP : va_P D vwCl [(g, .inr (11, [.ref g0, .ref g1, .ref g2, .int 0, .ref g4, .ref g5, .ref g6, .ref g7, .ref g8, .ref g9, .ref g10, .ref g11, .ref g12])), (g1, .inr (10, [.int 0, .int 0, .int 0, .ref t3, .ref t4, .ref t5, .ref t6, .int 0, .int 0, .ref t9, .ref t10, .int 0, .ref t12, .ref t13, .ref t14, .ref t15, .int 0, .ref t17, .ref t18, .ref t19]))] H1 := hP
  have hD : va_D A [(g, .inr (11, [.ref g0, .ref g1, .ref g2, .int 0, .ref g4, .ref g5, .ref g6, .ref g7, .ref g8, .ref g9, .ref g10, .ref g11, .ref g12])), (g1, .inr (10, [.int 0, .int 0, .int 0, .ref t3, .ref t4, .ref t5, .ref t6, .int 0, .int 0, .ref t9, .ref t10, .int 0, .ref t12, .ref t13, .ref t14, .ref t15, .int 0, .ref t17, .ref t18, .ref t19]))] := hD
  generalize H1 = H at hP hS ⊢
  obtain rfl : r_1 = 0 := hw
  refine lv_if_ne (tgt := 11) hx hb dX11_whose_5 (by decide) (fun c9 => absurd c9 (by decide)) (fun _ => ?_)
  refine lv_bipush (v := (-2)) hx hb dX11_whose_8 (by decide) ?_
  have hP9 := hP.sub (ws' := [(g, .inr (11, [.ref g0, .ref g1, .ref g2, .int 0, .ref g4, .ref g5, .ref g6, .ref g7, .ref g8, .ref g9, .ref g10, .ref g11, .ref g12])), (g1, .inr (10, [.int 0, .int 0, .int 0, .ref t3, .ref t4, .ref t5, .ref t6, .int 0, .int 0, .ref t9, .ref t10, .int 0, .ref t12, .ref t13, .ref t14, .ref t15, .int 0, .ref t17, .ref t18, .ref t19]))]) [0, 1] rfl
  have hD9 := hD.sub (ws' := [(g, .inr (11, [.ref g0, .ref g1, .ref g2, .int 0, .ref g4, .ref g5, .ref g6, .ref g7, .ref g8, .ref g9, .ref g10, .ref g11, .ref g12])), (g1, .inr (10, [.int 0, .int 0, .int 0, .ref t3, .ref t4, .ref t5, .ref t6, .int 0, .int 0, .ref t9, .ref t10, .int 0, .ref t12, .ref t13, .ref t14, .ref t15, .int 0, .ref t17, .ref t18, .ref t19]))]) [0, 1] (by decide) rfl
  exact W.iret (v := (-2)) hx hb hr (fun tZ ht hW => ⟨⟨(-2), (), rfl, rfl, by rw [ht]; exact hP9, va_K.moved hW.alike hK, hD9⟩, hS.F ht⟩) hS.2.2 dX11_whose_10
set_option maxHeartbeats 4000000 in
set_option maxRecDepth 100000 in
theorem c_X11_owns (l : Launch) (D : va_G) (k : Nat → ClassId) (g : Nat) (g0 : Nat) (g1 : Nat) (g2 : Nat) (g4 : Nat) (g5 : Nat) (g6 : Nat) (g7 : Nat) (g8 : Nat) (g9 : Nat) (g10 : Nat) (g11 : Nat) (g12 : Nat) (t3 : Nat) (t4 : Nat) (t5 : Nat) (t6 : Nat) (t9 : Nat) (t10 : Nat) (t12 : Nat) (t13 : Nat) (t14 : Nat) (t15 : Nat) (t17 : Nat) (t18 : Nat) (t19 : Nat) (p0 : Int32) (sz : Nat) : Met l yX11_owns (ww yX11_owns cX11_owns 4 (some .int)) ({ frames := 1, cells := 0, slots := 0, locals := 20 }) (Pre0 D k [(g, .inr (11, [.ref g0, .ref g1, .ref g2, .int 0, .ref g4, .ref g5, .ref g6, .ref g7, .ref g8, .ref g9, .ref g10, .ref g11, .ref g12])), (g1, .inr (10, [.int 0, .int 0, .int 0, .ref t3, .ref t4, .ref t5, .ref t6, .int 0, .int 0, .ref t9, .ref t10, .int 0, .ref t12, .ref t13, .ref t14, .ref t15, .int 0, .ref t17, .ref t18, .ref t19]))] sz [.ref g, .int p0]) (va_Qi (fun (r : Int32) (_ : Unit) => r = (-2)) (fun (_ : Unit) tZ => Bw D k (va_A [(g, .inr (11, [.ref g0, .ref g1, .ref g2, .int 0, .ref g4, .ref g5, .ref g6, .ref g7, .ref g8, .ref g9, .ref g10, .ref g11, .ref g12])), (g1, .inr (10, [.int 0, .int 0, .int 0, .ref t3, .ref t4, .ref t5, .ref t6, .int 0, .int 0, .ref t9, .ref t10, .int 0, .ref t12, .ref t13, .ref t14, .ref t15, .int 0, .ref t17, .ref t18, .ref t19]))] sz) [(g, .inr (11, [.ref g0, .ref g1, .ref g2, .int 0, .ref g4, .ref g5, .ref g6, .ref g7, .ref g8, .ref g9, .ref g10, .ref g11, .ref g12])), (g1, .inr (10, [.int 0, .int 0, .int 0, .ref t3, .ref t4, .ref t5, .ref t6, .int 0, .int 0, .ref t9, .ref t10, .int 0, .ref t12, .ref t13, .ref t14, .ref t15, .int 0, .ref t17, .ref t18, .ref t19]))] tZ) (va_A [(g, .inr (11, [.ref g0, .ref g1, .ref g2, .int 0, .ref g4, .ref g5, .ref g6, .ref g7, .ref g8, .ref g9, .ref g10, .ref g11, .ref g12])), (g1, .inr (10, [.int 0, .int 0, .int 0, .ref t3, .ref t4, .ref t5, .ref t6, .int 0, .int 0, .ref t9, .ref t10, .int 0, .ref t12, .ref t13, .ref t14, .ref t15, .int 0, .ref t17, .ref t18, .ref t19]))] sz)) 0 0 (va_A [(g, .inr (11, [.ref g0, .ref g1, .ref g2, .int 0, .ref g4, .ref g5, .ref g6, .ref g7, .ref g8, .ref g9, .ref g10, .ref g11, .ref g12])), (g1, .inr (10, [.int 0, .int 0, .int 0, .ref t3, .ref t4, .ref t5, .ref t6, .int 0, .int 0, .ref t9, .ref t10, .int 0, .ref t12, .ref t13, .ref t14, .ref t15, .int 0, .ref t17, .ref t18, .ref t19]))] sz) := by
  refine Met.ofW (cc := cX11_owns) (maxL := 4) (ret := (some .int)) (by decide +kernel) rfl ?_
  intro p e s m args below meth c s₁ B hml hv
  obtain ⟨rfl, hsz, hP, hK, hD0, hN⟩ := hv
  have hx := B.exec
  have hb := B.bytes
  have hr := B.returns
  have hts : ∀ w ∈ TT, w.before _ s = true := fun w h => atoms_spec (ws := ww yX11_owns cX11_owns 4 (some .int)) B.pre w (List.mem_cons_of_mem _ h)
  have hown : s.vm.findClass RX11 = some m.cls := findClass_of_methodNamed B.named
  have hlocks := B.notSynchronized
  subst hsz
  have hD := hD0.self (sz := s.heap.size)
  generalize hAe : va_A [(g, .inr (11, [.ref g0, .ref g1, .ref g2, .int 0, .ref g4, .ref g5, .ref g6, .ref g7, .ref g8, .ref g9, .ref g10, .ref g11, .ref g12])), (g1, .inr (10, [.int 0, .int 0, .int 0, .ref t3, .ref t4, .ref t5, .ref t6, .int 0, .int 0, .ref t9, .ref t10, .int 0, .ref t12, .ref t13, .ref t14, .ref t15, .int 0, .ref t17, .ref t18, .ref t19]))] s.heap.size = A at hD ⊢
  have hA : ∀ q : Nat, s.heap.size ≤ q → A q := fun q h => by rw [← hAe]; exact Or.inr h
  have hS : va_S A s.heap s.heap [] := va_S.rf
  have hl := lv_entry ([.ref g, .int p0]) (n := 4) (Nat.le_of_ble_eq_true rfl)
  rw [lg_entry_eq]
  generalize (lg_sl ([.ref g, .int p0]) ++ List.replicate (4 - (lg_sl ([.ref g, .int p0])).length) Slot.unset).toArray = ls at hl ⊢
  have hl : lv_has ls 4 [(0, .ref g), (1, .int p0)] := hl
  refine lv_aload_n hx hb dX11_owns_0 rfl (lv_at hl 0 rfl) ?_
  have hPc := hP.sub (ws' := [(g, .inr (11, [.ref g0, .ref g1, .ref g2, .int 0, .ref g4, .ref g5, .ref g6, .ref g7, .ref g8, .ref g9, .ref g10, .ref g11, .ref g12])), (g1, .inr (10, [.int 0, .int 0, .int 0, .ref t3, .ref t4, .ref t5, .ref t6, .int 0, .int 0, .ref t9, .ref t10, .int 0, .ref t12, .ref t13, .ref t14, .ref t15, .int 0, .ref t17, .ref t18, .ref t19]))]) [0, 1] rfl
  have hDc := hD.sub (ws' := [(g, .inr (11, [.ref g0, .ref g1, .ref g2, .int 0, .ref g4, .ref g5, .ref g6, .ref g7, .ref g8, .ref g9, .ref g10, .ref g11, .ref g12])), (g1, .inr (10, [.int 0, .int 0, .int 0, .ref t3, .ref t4, .ref t5, .ref t6, .int 0, .int 0, .ref t9, .ref t10, .int 0, .ref t12, .ref t13, .ref t14, .ref t15, .int 0, .ref t17, .ref t18, .ref t19]))]) [0, 1] (by decide) rfl
  have hFc := va_free (wc := [(g, .inr (11, [.ref g0, .ref g1, .ref g2, .int 0, .ref g4, .ref g5, .ref g6, .ref g7, .ref g8, .ref g9, .ref g10, .ref g11, .ref g12])), (g1, .inr (10, [.int 0, .int 0, .int 0, .ref t3, .ref t4, .ref t5, .ref t6, .int 0, .int 0, .ref t9, .ref t10, .int 0, .ref t12, .ref t13, .ref t14, .ref t15, .int 0, .ref t17, .ref t18, .ref t19]))]) hD hS hA [0, 1] rfl
  refine va_calli (va_runV (C := RX11) (As := []) (rest := []) ⟨hx, hb, hml, hown, hts⟩ (c_X11_hasNoTown l D k g g0 g1 g2 g4 g5 g6 g7 g8 g9 g10 g11 g12 t3 t4 t5 t6 t9 t10 t12 t13 t14 t15 t17 t18 t19 s.heap.size) (cwV 0 hts (gV tw_3_235 tw_3_237 tw_p_23 tw_1_1 tw_3_238) rfl rfl rfl hdV_X11_hasNoTown ⟨Nat.le_of_ble_eq_true rfl, Nat.le_of_ble_eq_true rfl⟩) (cz_V hK hPc hDc hN (ci := 11) (q0 := 0) rfl rfl []) rfl rfl hl.1 rfl (lv_room (Nat.le_of_ble_eq_true rfl)) dX11_owns_1 ⟨Nat.le_of_ble_eq_true rfl, Nat.le_of_ble_eq_true rfl⟩) hS (fun q _ h => hFc q h) hFc (fun r_1 uZ tZ H1 locs ht hvm hw hB hz1 hk1 hS => ?_)
  obtain ⟨hP1, hK1, hD1⟩ := hB
  rw [ht] at hP1
  obtain ⟨hP, hD⟩ := va_join (wr := []) (w1 := [(g, .inr (11, [.ref g0, .ref g1, .ref g2, .int 0, .ref g4, .ref g5, .ref g6, .ref g7, .ref g8, .ref g9, .ref g10, .ref g11, .ref g12])), (g1, .inr (10, [.int 0, .int 0, .int 0, .ref t3, .ref t4, .ref t5, .ref t6, .int 0, .int 0, .ref t9, .ref t10, .int 0, .ref t12, .ref t13, .ref t14, .ref t15, .int 0, .ref t17, .ref t18, .ref t19]))]) hP hD [0, 1] [] rfl rfl (by decide) (by decide) hk1 hFc hP1 hD1
  clear hK1 hP1 hD1 hPc hDc hFc
  clear hk1 hz1 ht hvm
  have hP : va_P D vwCl [(g, .inr (11, [.ref g0, .ref g1, .ref g2, .int 0, .ref g4, .ref g5, .ref g6, .ref g7, .ref g8, .ref g9, .ref g10, .ref g11, .ref g12])), (g1, .inr (10, [.int 0, .int 0, .int 0, .ref t3, .ref t4, .ref t5, .ref t6, .int 0, .int 0, .ref t9, .ref t10, .int 0, .ref t12, .ref t13, .ref t14, .ref t15, .int 0, .ref t17, .ref t18, .ref t19]))] H1 := hP
  have hD : va_D A [(g, .inr (11, [.ref g0, .ref g1, .ref g2, .int 0, .ref g4, .ref g5, .ref g6, .ref g7, .ref g8, .ref g9, .ref g10, .ref g11, .ref g12])), (g1, .inr (10, [.int 0, .int 0, .int 0, .ref t3, .ref t4, .ref t5, .ref t6, .int 0, .int 0, .ref t9, .ref t10, .int 0, .ref t12, .ref t13, .ref t14, .ref t15, .int 0, .ref t17, .ref t18, .ref t19]))] := hD
  generalize H1 = H at hP hS ⊢
  obtain rfl : r_1 = 1 := hw
  refine lv_if_ne (tgt := 22) hx hb dX11_owns_4 (by decide) (fun _ => ?_) (fun c9 => absurd c9 (by decide))
  refine lv_bipush (v := (-2)) hx hb dX11_owns_22 (by decide) ?_
  have hP9 := hP.sub (ws' := [(g, .inr (11, [.ref g0, .ref g1, .ref g2, .int 0, .ref g4, .ref g5, .ref g6, .ref g7, .ref g8, .ref g9, .ref g10, .ref g11, .ref g12])), (g1, .inr (10, [.int 0, .int 0, .int 0, .ref t3, .ref t4, .ref t5, .ref t6, .int 0, .int 0, .ref t9, .ref t10, .int 0, .ref t12, .ref t13, .ref t14, .ref t15, .int 0, .ref t17, .ref t18, .ref t19]))]) [0, 1] rfl
  have hD9 := hD.sub (ws' := [(g, .inr (11, [.ref g0, .ref g1, .ref g2, .int 0, .ref g4, .ref g5, .ref g6, .ref g7, .ref g8, .ref g9, .ref g10, .ref g11, .ref g12])), (g1, .inr (10, [.int 0, .int 0, .int 0, .ref t3, .ref t4, .ref t5, .ref t6, .int 0, .int 0, .ref t9, .ref t10, .int 0, .ref t12, .ref t13, .ref t14, .ref t15, .int 0, .ref t17, .ref t18, .ref t19]))]) [0, 1] (by decide) rfl
  exact W.iret (v := (-2)) hx hb hr (fun tZ ht hW => ⟨⟨(-2), (), rfl, rfl, by rw [ht]; exact hP9, va_K.moved hW.alike hK, hD9⟩, hS.F ht⟩) hS.2.2 dX11_owns_24
set_option maxHeartbeats 4000000 in
set_option maxRecDepth 100000 in
theorem c_X11_front (l : Launch) (D : va_G) (k : Nat → ClassId) (g : Nat) (g0 : Nat) (g1 : Nat) (g2 : Nat) (g4 : Nat) (g5 : Nat) (g6 : Nat) (g7 : Nat) (g8 : Nat) (g9 : Nat) (g10 : Nat) (g11 : Nat) (g12 : Nat) (t3 : Nat) (t4 : Nat) (t5 : Nat) (t6 : Nat) (t9 : Nat) (t10 : Nat) (t12 : Nat) (t13 : Nat) (t14 : Nat) (t15 : Nat) (t17 : Nat) (t18 : Nat) (t19 : Nat) (sz : Nat) : Met l yX11_front (ww yX11_front cX11_front 3 (some .int)) ({ frames := 1, cells := 0, slots := 0, locals := 20 }) (Pre0 D k [(g, .inr (11, [.ref g0, .ref g1, .ref g2, .int 0, .ref g4, .ref g5, .ref g6, .ref g7, .ref g8, .ref g9, .ref g10, .ref g11, .ref g12])), (g1, .inr (10, [.int 0, .int 0, .int 0, .ref t3, .ref t4, .ref t5, .ref t6, .int 0, .int 0, .ref t9, .ref t10, .int 0, .ref t12, .ref t13, .ref t14, .ref t15, .int 0, .ref t17, .ref t18, .ref t19]))] sz [.ref g]) (va_Qi (fun (r : Int32) (_ : Unit) => r = (-2)) (fun (_ : Unit) tZ => Bw D k (va_A [(g, .inr (11, [.ref g0, .ref g1, .ref g2, .int 0, .ref g4, .ref g5, .ref g6, .ref g7, .ref g8, .ref g9, .ref g10, .ref g11, .ref g12])), (g1, .inr (10, [.int 0, .int 0, .int 0, .ref t3, .ref t4, .ref t5, .ref t6, .int 0, .int 0, .ref t9, .ref t10, .int 0, .ref t12, .ref t13, .ref t14, .ref t15, .int 0, .ref t17, .ref t18, .ref t19]))] sz) [(g, .inr (11, [.ref g0, .ref g1, .ref g2, .int 0, .ref g4, .ref g5, .ref g6, .ref g7, .ref g8, .ref g9, .ref g10, .ref g11, .ref g12])), (g1, .inr (10, [.int 0, .int 0, .int 0, .ref t3, .ref t4, .ref t5, .ref t6, .int 0, .int 0, .ref t9, .ref t10, .int 0, .ref t12, .ref t13, .ref t14, .ref t15, .int 0, .ref t17, .ref t18, .ref t19]))] tZ) (va_A [(g, .inr (11, [.ref g0, .ref g1, .ref g2, .int 0, .ref g4, .ref g5, .ref g6, .ref g7, .ref g8, .ref g9, .ref g10, .ref g11, .ref g12])), (g1, .inr (10, [.int 0, .int 0, .int 0, .ref t3, .ref t4, .ref t5, .ref t6, .int 0, .int 0, .ref t9, .ref t10, .int 0, .ref t12, .ref t13, .ref t14, .ref t15, .int 0, .ref t17, .ref t18, .ref t19]))] sz)) 0 0 (va_A [(g, .inr (11, [.ref g0, .ref g1, .ref g2, .int 0, .ref g4, .ref g5, .ref g6, .ref g7, .ref g8, .ref g9, .ref g10, .ref g11, .ref g12])), (g1, .inr (10, [.int 0, .int 0, .int 0, .ref t3, .ref t4, .ref t5, .ref t6, .int 0, .int 0, .ref t9, .ref t10, .int 0, .ref t12, .ref t13, .ref t14, .ref t15, .int 0, .ref t17, .ref t18, .ref t19]))] sz) := by
  refine Met.ofW (cc := cX11_front) (maxL := 3) (ret := (some .int)) (by decide +kernel) rfl ?_
  intro p e s m args below meth c s₁ B hml hv
  obtain ⟨rfl, hsz, hP, hK, hD0, hN⟩ := hv
  have hx := B.exec
  have hb := B.bytes
  have hr := B.returns
  have hts : ∀ w ∈ TT, w.before _ s = true := fun w h => atoms_spec (ws := ww yX11_front cX11_front 3 (some .int)) B.pre w (List.mem_cons_of_mem _ h)
  have hown : s.vm.findClass RX11 = some m.cls := findClass_of_methodNamed B.named
  have hlocks := B.notSynchronized
  subst hsz
  have hD := hD0.self (sz := s.heap.size)
  generalize hAe : va_A [(g, .inr (11, [.ref g0, .ref g1, .ref g2, .int 0, .ref g4, .ref g5, .ref g6, .ref g7, .ref g8, .ref g9, .ref g10, .ref g11, .ref g12])), (g1, .inr (10, [.int 0, .int 0, .int 0, .ref t3, .ref t4, .ref t5, .ref t6, .int 0, .int 0, .ref t9, .ref t10, .int 0, .ref t12, .ref t13, .ref t14, .ref t15, .int 0, .ref t17, .ref t18, .ref t19]))] s.heap.size = A at hD ⊢
  have hA : ∀ q : Nat, s.heap.size ≤ q → A q := fun q h => by rw [← hAe]; exact Or.inr h
  have hS : va_S A s.heap s.heap [] := va_S.rf
  have hl := lv_entry ([.ref g]) (n := 3) (Nat.le_of_ble_eq_true rfl)
  rw [lg_entry_eq]
  generalize (lg_sl ([.ref g]) ++ List.replicate (3 - (lg_sl ([.ref g])).length) Slot.unset).toArray = ls at hl ⊢
  have hl : lv_has ls 3 [(0, .ref g)] := hl
  refine lv_aload_n hx hb dX11_front_0 rfl (lv_at hl 0 rfl) ?_
  have hPc := hP.sub (ws' := [(g, .inr (11, [.ref g0, .ref g1, .ref g2, .int 0, .ref g4, .ref g5, .ref g6, .ref g7, .ref g8, .ref g9, .ref g10, .ref g11, .ref g12])), (g1, .inr (10, [.int 0, .int 0, .int 0, .ref t3, .ref t4, .ref t5, .ref t6, .int 0, .int 0, .ref t9, .ref t10, .int 0, .ref t12, .ref t13, .ref t14, .ref t15, .int 0, .ref t17, .ref t18, .ref t19]))]) [0, 1] rfl
  have hDc := hD.sub (ws' := [(g, .inr (11, [.ref g0, .ref g1, .ref g2, .int 0, .ref g4, .ref g5, .ref g6, .ref g7, .ref g8, .ref g9, .ref g10, .ref g11, .ref g12])), (g1, .inr (10, [.int 0, .int 0, .int 0, .ref t3, .ref t4, .ref t5, .ref t6, .int 0, .int 0, .ref t9, .ref t10, .int 0, .ref t12, .ref t13, .ref t14, .ref t15, .int 0, .ref t17, .ref t18, .ref t19]))]) [0, 1] (by decide) rfl
  have hFc := va_free (wc := [(g, .inr (11, [.ref g0, .ref g1, .ref g2, .int 0, .ref g4, .ref g5, .ref g6, .ref g7, .ref g8, .ref g9, .ref g10, .ref g11, .ref g12])), (g1, .inr (10, [.int 0, .int 0, .int 0, .ref t3, .ref t4, .ref t5, .ref t6, .int 0, .int 0, .ref t9, .ref t10, .int 0, .ref t12, .ref t13, .ref t14, .ref t15, .int 0, .ref t17, .ref t18, .ref t19]))]) hD hS hA [0, 1] rfl
  refine va_calli (va_runV (C := RX11) (As := []) (rest := []) ⟨hx, hb, hml, hown, hts⟩ (c_X11_hasNoTown l D k g g0 g1 g2 g4 g5 g6 g7 g8 g9 g10 g11 g12 t3 t4 t5 t6 t9 t10 t12 t13 t14 t15 t17 t18 t19 s.heap.size) (cwV 0 hts (gV tw_3_235 tw_3_237 tw_p_23 tw_1_1 tw_3_238) rfl rfl rfl hdV_X11_hasNoTown ⟨Nat.le_of_ble_eq_true rfl, Nat.le_of_ble_eq_true rfl⟩) (cz_V hK hPc hDc hN (ci := 11) (q0 := 0) rfl rfl []) rfl rfl hl.1 rfl (lv_room (Nat.le_of_ble_eq_true rfl)) dX11_front_1 ⟨Nat.le_of_ble_eq_true rfl, Nat.le_of_ble_eq_true rfl⟩) hS (fun q _ h => hFc q h) hFc (fun r_1 uZ tZ H1 locs ht hvm hw hB hz1 hk1 hS => ?_)
  obtain ⟨hP1, hK1, hD1⟩ := hB
  rw [ht] at hP1
  obtain ⟨hP, hD⟩ := va_join (wr := []) (w1 := [(g, .inr (11, [.ref g0, .ref g1, .ref g2, .int 0, .ref g4, .ref g5, .ref g6, .ref g7, .ref g8, .ref g9, .ref g10, .ref g11, .ref g12])), (g1, .inr (10, [.int 0, .int 0, .int 0, .ref t3, .ref t4, .ref t5, .ref t6, .int 0, .int 0, .ref t9, .ref t10, .int 0, .ref t12, .ref t13, .ref t14, .ref t15, .int 0, .ref t17, .ref t18, .ref t19]))]) hP hD [0, 1] [] rfl rfl (by decide) (by decide) hk1 hFc hP1 hD1
  clear hK1 hP1 hD1 hPc hDc hFc
  clear hk1 hz1 ht hvm
  have hP : va_P D vwCl [(g, .inr (11, [.ref g0, .ref g1, .ref g2, .int 0, .ref g4, .ref g5, .ref g6, .ref g7, .ref g8, .ref g9, .ref g10, .ref g11, .ref g12])), (g1, .inr (10, [.int 0, .int 0, .int 0, .ref t3, .ref t4, .ref t5, .ref t6, .int 0, .int 0, .ref t9, .ref t10, .int 0, .ref t12, .ref t13, .ref t14, .ref t15, .int 0, .ref t17, .ref t18, .ref t19]))] H1 := hP
  have hD : va_D A [(g, .inr (11, [.ref g0, .ref g1, .ref g2, .int 0, .ref g4, .ref g5, .ref g6, .ref g7, .ref g8, .ref g9, .ref g10, .ref g11, .ref g12])), (g1, .inr (10, [.int 0, .int 0, .int 0, .ref t3, .ref t4, .ref t5, .ref t6, .int 0, .int 0, .ref t9, .ref t10, .int 0, .ref t12, .ref t13, .ref t14, .ref t15, .int 0, .ref t17, .ref t18, .ref t19]))] := hD
  generalize H1 = H at hP hS ⊢
  obtain rfl : r_1 = 1 := hw
  refine lv_if_eq (tgt := 10) hx hb dX11_front_4 (by decide) (fun c9 => absurd c9 (by decide)) (fun _ => ?_)
  refine lv_bipush (v := (-2)) hx hb dX11_front_7 (by decide) ?_
  have hP9 := hP.sub (ws' := [(g, .inr (11, [.ref g0, .ref g1, .ref g2, .int 0, .ref g4, .ref g5, .ref g6, .ref g7, .ref g8, .ref g9, .ref g10, .ref g11, .ref g12])), (g1, .inr (10, [.int 0, .int 0, .int 0, .ref t3, .ref t4, .ref t5, .ref t6, .int 0, .int 0, .ref t9, .ref t10, .int 0, .ref t12, .ref t13, .ref t14, .ref t15, .int 0, .ref t17, .ref t18, .ref t19]))]) [0, 1] rfl
  have hD9 := hD.sub (ws' := [(g, .inr (11, [.ref g0, .ref g1, .ref g2, .int 0, .ref g4, .ref g5, .ref g6, .ref g7, .ref g8, .ref g9, .ref g10, .ref g11, .ref g12])), (g1, .inr (10, [.int 0, .int 0, .int 0, .ref t3, .ref t4, .ref t5, .ref t6, .int 0, .int 0, .ref t9, .ref t10, .int 0, .ref t12, .ref t13, .ref t14, .ref t15, .int 0, .ref t17, .ref t18, .ref t19]))]) [0, 1] (by decide) rfl
  exact W.iret (v := (-2)) hx hb hr (fun tZ ht hW => ⟨⟨(-2), (), rfl, rfl, by rw [ht]; exact hP9, va_K.moved hW.alike hK, hD9⟩, hS.F ht⟩) hS.2.2 dX11_front_9
set_option maxHeartbeats 4000000 in
set_option maxRecDepth 100000 in
theorem c_X11_late (l : Launch) (D : va_G) (k : Nat → ClassId) (g : Nat) (g0 : Nat) (g1 : Nat) (g2 : Nat) (g4 : Nat) (g5 : Nat) (g6 : Nat) (g7 : Nat) (g8 : Nat) (g9 : Nat) (g10 : Nat) (g11 : Nat) (g12 : Nat) (t3 : Nat) (t4 : Nat) (t5 : Nat) (t6 : Nat) (t9 : Nat) (t10 : Nat) (t12 : Nat) (t13 : Nat) (t14 : Nat) (t15 : Nat) (t17 : Nat) (t18 : Nat) (t19 : Nat) (p0 : Int32) (sz : Nat) : Met l yX11_late (ww yX11_late cX11_late 2 (some .int)) ({ frames := 1, cells := 0, slots := 0, locals := 21 }) (Pre0 D k [(g, .inr (11, [.ref g0, .ref g1, .ref g2, .int 0, .ref g4, .ref g5, .ref g6, .ref g7, .ref g8, .ref g9, .ref g10, .ref g11, .ref g12])), (g1, .inr (10, [.int 0, .int 0, .int 0, .ref t3, .ref t4, .ref t5, .ref t6, .int 0, .int 0, .ref t9, .ref t10, .int 0, .ref t12, .ref t13, .ref t14, .ref t15, .int 0, .ref t17, .ref t18, .ref t19]))] sz [.ref g, .int p0]) (va_Qi (fun (r : Int32) (_ : Unit) => r = (-2)) (fun (_ : Unit) tZ => Bw D k (va_A [(g, .inr (11, [.ref g0, .ref g1, .ref g2, .int 0, .ref g4, .ref g5, .ref g6, .ref g7, .ref g8, .ref g9, .ref g10, .ref g11, .ref g12])), (g1, .inr (10, [.int 0, .int 0, .int 0, .ref t3, .ref t4, .ref t5, .ref t6, .int 0, .int 0, .ref t9, .ref t10, .int 0, .ref t12, .ref t13, .ref t14, .ref t15, .int 0, .ref t17, .ref t18, .ref t19]))] sz) [(g, .inr (11, [.ref g0, .ref g1, .ref g2, .int 0, .ref g4, .ref g5, .ref g6, .ref g7, .ref g8, .ref g9, .ref g10, .ref g11, .ref g12])), (g1, .inr (10, [.int 0, .int 0, .int 0, .ref t3, .ref t4, .ref t5, .ref t6, .int 0, .int 0, .ref t9, .ref t10, .int 0, .ref t12, .ref t13, .ref t14, .ref t15, .int 0, .ref t17, .ref t18, .ref t19]))] tZ) (va_A [(g, .inr (11, [.ref g0, .ref g1, .ref g2, .int 0, .ref g4, .ref g5, .ref g6, .ref g7, .ref g8, .ref g9, .ref g10, .ref g11, .ref g12])), (g1, .inr (10, [.int 0, .int 0, .int 0, .ref t3, .ref t4, .ref t5, .ref t6, .int 0, .int 0, .ref t9, .ref t10, .int 0, .ref t12, .ref t13, .ref t14, .ref t15, .int 0, .ref t17, .ref t18, .ref t19]))] sz)) 0 0 (va_A [(g, .inr (11, [.ref g0, .ref g1, .ref g2, .int 0, .ref g4, .ref g5, .ref g6, .ref g7, .ref g8, .ref g9, .ref g10, .ref g11, .ref g12])), (g1, .inr (10, [.int 0, .int 0, .int 0, .ref t3, .ref t4, .ref t5, .ref t6, .int 0, .int 0, .ref t9, .ref t10, .int 0, .ref t12, .ref t13, .ref t14, .ref t15, .int 0, .ref t17, .ref t18, .ref t19]))] sz) := by
  refine Met.ofW (cc := cX11_late) (maxL := 2) (ret := (some .int)) (by decide +kernel) rfl ?_
  intro p e s m args below meth c s₁ B hml hv
  obtain ⟨rfl, hsz, hP, hK, hD0, hN⟩ := hv
  have hx := B.exec
  have hb := B.bytes
  have hr := B.returns
  have hts : ∀ w ∈ TT, w.before _ s = true := fun w h => atoms_spec (ws := ww yX11_late cX11_late 2 (some .int)) B.pre w (List.mem_cons_of_mem _ h)
  have hown : s.vm.findClass RX11 = some m.cls := findClass_of_methodNamed B.named
  have hlocks := B.notSynchronized
  subst hsz
  have hD := hD0.self (sz := s.heap.size)
  generalize hAe : va_A [(g, .inr (11, [.ref g0, .ref g1, .ref g2, .int 0, .ref g4, .ref g5, .ref g6, .ref g7, .ref g8, .ref g9, .ref g10, .ref g11, .ref g12])), (g1, .inr (10, [.int 0, .int 0, .int 0, .ref t3, .ref t4, .ref t5, .ref t6, .int 0, .int 0, .ref t9, .ref t10, .int 0, .ref t12, .ref t13, .ref t14, .ref t15, .int 0, .ref t17, .ref t18, .ref t19]))] s.heap.size = A at hD ⊢
  have hA : ∀ q : Nat, s.heap.size ≤ q → A q := fun q h => by rw [← hAe]; exact Or.inr h
  have hS : va_S A s.heap s.heap [] := va_S.rf
  have hl := lv_entry ([.ref g, .int p0]) (n := 2) (Nat.le_of_ble_eq_true rfl)
  rw [lg_entry_eq]
  generalize (lg_sl ([.ref g, .int p0]) ++ List.replicate (2 - (lg_sl ([.ref g, .int p0])).length) Slot.unset).toArray = ls at hl ⊢
  have hl : lv_has ls 2 [(0, .ref g), (1, .int p0)] := hl
  refine lv_aload_n hx hb dX11_late_0 rfl (lv_at hl 0 rfl) ?_
  refine lv_iload_n hx hb dX11_late_1 rfl (lv_at hl 1 rfl) ?_
  have hPc := hP.sub (ws' := [(g, .inr (11, [.ref g0, .ref g1, .ref g2, .int 0, .ref g4, .ref g5, .ref g6, .ref g7, .ref g8, .ref g9, .ref g10, .ref g11, .ref g12])), (g1, .inr (10, [.int 0, .int 0, .int 0, .ref t3, .ref t4, .ref t5, .ref t6, .int 0, .int 0, .ref t9, .ref t10, .int 0, .ref t12, .ref t13, .ref t14, .ref t15, .int 0, .ref t17, .ref t18, .ref t19]))]) [0, 1] rfl
  have hDc := hD.sub (ws' := [(g, .inr (11, [.ref g0, .ref g1, .ref g2, .int 0, .ref g4, .ref g5, .ref g6, .ref g7, .ref g8, .ref g9, .ref g10, .ref g11, .ref g12])), (g1, .inr (10, [.int 0, .int 0, .int 0, .ref t3, .ref t4, .ref t5, .ref t6, .int 0, .int 0, .ref t9, .ref t10, .int 0, .ref t12, .ref t13, .ref t14, .ref t15, .int 0, .ref t17, .ref t18, .ref t19]))]) [0, 1] (by decide) rfl
  have hFc := va_free (wc := [(g, .inr (11, [.ref g0, .ref g1, .ref g2, .int 0, .ref g4, .ref g5, .ref g6, .ref g7, .ref g8, .ref g9, .ref g10, .ref g11, .ref g12])), (g1, .inr (10, [.int 0, .int 0, .int 0, .ref t3, .ref t4, .ref t5, .ref t6, .int 0, .int 0, .ref t9, .ref t10, .int 0, .ref t12, .ref t13, .ref t14, .ref t15, .int 0, .ref t17, .ref t18, .ref t19]))]) hD hS hA [0, 1] rfl
  refine va_calli (va_runV (C := RX11) (As := [.int p0]) (rest := []) ⟨hx, hb, hml, hown, hts⟩ (c_X11_isStreet l D k g g0 g1 g2 g4 g5 g6 g7 g8 g9 g10 g11 g12 t3 t4 t5 t6 t9 t10 t12 t13 t14 t15 t17 t18 t19 p0 s.heap.size) (cwV 1 hts (gV tw_3_171 tw_3_173 tw_p_18 tw_1_1 tw_3_174) rfl rfl rfl hdV_X11_isStreet ⟨Nat.le_of_ble_eq_true rfl, Nat.le_of_ble_eq_true rfl⟩) (cz_V hK hPc hDc hN (ci := 11) (q0 := 0) rfl rfl [.int p0]) rfl rfl hl.1 rfl (lv_room (Nat.le_of_ble_eq_true rfl)) dX11_late_2 ⟨Nat.le_of_ble_eq_true rfl, Nat.le_of_ble_eq_true rfl⟩) hS (fun q _ h => hFc q h) hFc (fun r_1 uZ tZ H1 locs ht hvm hw hB hz1 hk1 hS => ?_)
  obtain ⟨hP1, hK1, hD1⟩ := hB
  rw [ht] at hP1
  obtain ⟨hP, hD⟩ := va_join (wr := []) (w1 := [(g, .inr (11, [.ref g0, .ref g1, .ref g2, .int 0, .ref g4, .ref g5, .ref g6, .ref g7, .ref g8, .ref g9, .ref g10, .ref g11, .ref g12])), (g1, .inr (10, [.int 0, .int 0, .int 0, .ref t3, .ref t4, .ref t5, .ref t6, .int 0, .int 0, .ref t9, .ref t10, .int 0, .ref t12, .ref t13, .ref t14, .ref t15, .int 0, .ref t17, .ref t18, .ref t19]))]) hP hD [0, 1] [] rfl rfl (by decide) (by decide) hk1 hFc hP1 hD1
  clear hK1 hP1 hD1 hPc hDc hFc
  clear hk1 hz1 ht hvm
  have hP : va_P D vwCl [(g, .inr (11, [.ref g0, .ref g1, .ref g2, .int 0, .ref g4, .ref g5, .ref g6, .ref g7, .ref g8, .ref g9, .ref g10, .ref g11, .ref g12])), (g1, .inr (10, [.int 0, .int 0, .int 0, .ref t3, .ref t4, .ref t5, .ref t6, .int 0, .int 0, .ref t9, .ref t10, .int 0, .ref t12, .ref t13, .ref t14, .ref t15, .int 0, .ref t17, .ref t18, .ref t19]))] H1 := hP
  have hD : va_D A [(g, .inr (11, [.ref g0, .ref g1, .ref g2, .int 0, .ref g4, .ref g5, .ref g6, .ref g7, .ref g8, .ref g9, .ref g10, .ref g11, .ref g12])), (g1, .inr (10, [.int 0, .int 0, .int 0, .ref t3, .ref t4, .ref t5, .ref t6, .int 0, .int 0, .ref t9, .ref t10, .int 0, .ref t12, .ref t13, .ref t14, .ref t15, .int 0, .ref t17, .ref t18, .ref t19]))] := hD
  generalize H1 = H at hP hS ⊢
  obtain rfl : r_1 = 0 := hw
  refine lv_if_ne (tgt := 11) hx hb dX11_late_5 (by decide) (fun c9 => absurd c9 (by decide)) (fun _ => ?_)
  refine lv_bipush (v := (-2)) hx hb dX11_late_8 (by decide) ?_
  have hP9 := hP.sub (ws' := [(g, .inr (11, [.ref g0, .ref g1, .ref g2, .int 0, .ref g4, .ref g5, .ref g6, .ref g7, .ref g8, .ref g9, .ref g10, .ref g11, .ref g12])), (g1, .inr (10, [.int 0, .int 0, .int 0, .ref t3, .ref t4, .ref t5, .ref t6, .int 0, .int 0, .ref t9, .ref t10, .int 0, .ref t12, .ref t13, .ref t14, .ref t15, .int 0, .ref t17, .ref t18, .ref t19]))]) [0, 1] rfl
  have hD9 := hD.sub (ws' := [(g, .inr (11, [.ref g0, .ref g1, .ref g2, .int 0, .ref g4, .ref g5, .ref g6, .ref g7, .ref g8, .ref g9, .ref g10, .ref g11, .ref g12])), (g1, .inr (10, [.int 0, .int 0, .int 0, .ref t3, .ref t4, .ref t5, .ref t6, .int 0, .int 0, .ref t9, .ref t10, .int 0, .ref t12, .ref t13, .ref t14, .ref t15, .int 0, .ref t17, .ref t18, .ref t19]))]) [0, 1] (by decide) rfl
  exact W.iret (v := (-2)) hx hb hr (fun tZ ht hW => ⟨⟨(-2), (), rfl, rfl, by rw [ht]; exact hP9, va_K.moved hW.alike hK, hD9⟩, hS.F ht⟩) hS.2.2 dX11_late_10
set_option maxHeartbeats 4000000 in
set_option maxRecDepth 100000 in
theorem c_X11_glad (l : Launch) (D : va_G) (k : Nat → ClassId) (g : Nat) (g0 : Nat) (g1 : Nat) (g2 : Nat) (g4 : Nat) (g5 : Nat) (g6 : Nat) (g7 : Nat) (g8 : Nat) (g9 : Nat) (g10 : Nat) (g11 : Nat) (g12 : Nat) (t3 : Nat) (t4 : Nat) (t5 : Nat) (t6 : Nat) (t9 : Nat) (t10 : Nat) (t12 : Nat) (t13 : Nat) (t14 : Nat) (t15 : Nat) (t17 : Nat) (t18 : Nat) (t19 : Nat) (p0 : Int32) (sz : Nat) : Met l yX11_glad (ww yX11_glad cX11_glad 2 (some .int)) ({ frames := 1, cells := 0, slots := 0, locals := 21 }) (Pre0 D k [(g, .inr (11, [.ref g0, .ref g1, .ref g2, .int 0, .ref g4, .ref g5, .ref g6, .ref g7, .ref g8, .ref g9, .ref g10, .ref g11, .ref g12])), (g1, .inr (10, [.int 0, .int 0, .int 0, .ref t3, .ref t4, .ref t5, .ref t6, .int 0, .int 0, .ref t9, .ref t10, .int 0, .ref t12, .ref t13, .ref t14, .ref t15, .int 0, .ref t17, .ref t18, .ref t19]))] sz [.ref g, .int p0]) (va_Qi (fun (r : Int32) (_ : Unit) => r = (-2)) (fun (_ : Unit) tZ => Bw D k (va_A [(g, .inr (11, [.ref g0, .ref g1, .ref g2, .int 0, .ref g4, .ref g5, .ref g6, .ref g7, .ref g8, .ref g9, .ref g10, .ref g11, .ref g12])), (g1, .inr (10, [.int 0, .int 0, .int 0, .ref t3, .ref t4, .ref t5, .ref t6, .int 0, .int 0, .ref t9, .ref t10, .int 0, .ref t12, .ref t13, .ref t14, .ref t15, .int 0, .ref t17, .ref t18, .ref t19]))] sz) [(g, .inr (11, [.ref g0, .ref g1, .ref g2, .int 0, .ref g4, .ref g5, .ref g6, .ref g7, .ref g8, .ref g9, .ref g10, .ref g11, .ref g12])), (g1, .inr (10, [.int 0, .int 0, .int 0, .ref t3, .ref t4, .ref t5, .ref t6, .int 0, .int 0, .ref t9, .ref t10, .int 0, .ref t12, .ref t13, .ref t14, .ref t15, .int 0, .ref t17, .ref t18, .ref t19]))] tZ) (va_A [(g, .inr (11, [.ref g0, .ref g1, .ref g2, .int 0, .ref g4, .ref g5, .ref g6, .ref g7, .ref g8, .ref g9, .ref g10, .ref g11, .ref g12])), (g1, .inr (10, [.int 0, .int 0, .int 0, .ref t3, .ref t4, .ref t5, .ref t6, .int 0, .int 0, .ref t9, .ref t10, .int 0, .ref t12, .ref t13, .ref t14, .ref t15, .int 0, .ref t17, .ref t18, .ref t19]))] sz)) 0 0 (va_A [(g, .inr (11, [.ref g0, .ref g1, .ref g2, .int 0, .ref g4, .ref g5, .ref g6, .ref g7, .ref g8, .ref g9, .ref g10, .ref g11, .ref g12])), (g1, .inr (10, [.int 0, .int 0, .int 0, .ref t3, .ref t4, .ref t5, .ref t6, .int 0, .int 0, .ref t9, .ref t10, .int 0, .ref t12, .ref t13, .ref t14, .ref t15, .int 0, .ref t17, .ref t18, .ref t19]))] sz) := by
  refine Met.ofW (cc := cX11_glad) (maxL := 2) (ret := (some .int)) (by decide +kernel) rfl ?_
  intro p e s m args below meth c s₁ B hml hv
  obtain ⟨rfl, hsz, hP, hK, hD0, hN⟩ := hv
  have hx := B.exec
  have hb := B.bytes
  have hr := B.returns
  have hts : ∀ w ∈ TT, w.before _ s = true := fun w h => atoms_spec (ws := ww yX11_glad cX11_glad 2 (some .int)) B.pre w (List.mem_cons_of_mem _ h)
  have hown : s.vm.findClass RX11 = some m.cls := findClass_of_methodNamed B.named
  have hlocks := B.notSynchronized
  subst hsz
  have hD := hD0.self (sz := s.heap.size)
  generalize hAe : va_A [(g, .inr (11, [.ref g0, .ref g1, .ref g2, .int 0, .ref g4, .ref g5, .ref g6, .ref g7, .ref g8, .ref g9, .ref g10, .ref g11, .ref g12])), (g1, .inr (10, [.int 0, .int 0, .int 0, .ref t3, .ref t4, .ref t5, .ref t6, .int 0, .int 0, .ref t9, .ref t10, .int 0, .ref t12, .ref t13, .ref t14, .ref t15, .int 0, .ref t17, .ref t18, .ref t19]))] s.heap.size = A at hD ⊢
  have hA : ∀ q : Nat, s.heap.size ≤ q → A q := fun q h => by rw [← hAe]; exact Or.inr h
  have hS : va_S A s.heap s.heap [] := va_S.rf
  have hl := lv_entry ([.ref g, .int p0]) (n := 2) (Nat.le_of_ble_eq_true rfl)
  rw [lg_entry_eq]
  generalize (lg_sl ([.ref g, .int p0]) ++ List.replicate (2 - (lg_sl ([.ref g, .int p0])).length) Slot.unset).toArray = ls at hl ⊢
  have hl : lv_has ls 2 [(0, .ref g), (1, .int p0)] := hl
  refine lv_aload_n hx hb dX11_glad_0 rfl (lv_at hl 0 rfl) ?_
  refine lv_iload_n hx hb dX11_glad_1 rfl (lv_at hl 1 rfl) ?_
  have hPc := hP.sub (ws' := [(g, .inr (11, [.ref g0, .ref g1, .ref g2, .int 0, .ref g4, .ref g5, .ref g6, .ref g7, .ref g8, .ref g9, .ref g10, .ref g11, .ref g12])), (g1, .inr (10, [.int 0, .int 0, .int 0, .ref t3, .ref t4, .ref t5, .ref t6, .int 0, .int 0, .ref t9, .ref t10, .int 0, .ref t12, .ref t13, .ref t14, .ref t15, .int 0, .ref t17, .ref t18, .ref t19]))]) [0, 1] rfl
  have hDc := hD.sub (ws' := [(g, .inr (11, [.ref g0, .ref g1, .ref g2, .int 0, .ref g4, .ref g5, .ref g6, .ref g7, .ref g8, .ref g9, .ref g10, .ref g11, .ref g12])), (g1, .inr (10, [.int 0, .int 0, .int 0, .ref t3, .ref t4, .ref t5, .ref t6, .int 0, .int 0, .ref t9, .ref t10, .int 0, .ref t12, .ref t13, .ref t14, .ref t15, .int 0, .ref t17, .ref t18, .ref t19]))]) [0, 1] (by decide) rfl
  have hFc := va_free (wc := [(g, .inr (11, [.ref g0, .ref g1, .ref g2, .int 0, .ref g4, .ref g5, .ref g6, .ref g7, .ref g8, .ref g9, .ref g10, .ref g11, .ref g12])), (g1, .inr (10, [.int 0, .int 0, .int 0, .ref t3, .ref t4, .ref t5, .ref t6, .int 0, .int 0, .ref t9, .ref t10, .int 0, .ref t12, .ref t13, .ref t14, .ref t15, .int 0, .ref t17, .ref t18, .ref t19]))]) hD hS hA [0, 1] rfl
  refine va_calli (va_runV (C := RX11) (As := [.int p0]) (rest := []) ⟨hx, hb, hml, hown, hts⟩ (c_X11_isHouse l D k g g0 g1 g2 g4 g5 g6 g7 g8 g9 g10 g11 g12 t3 t4 t5 t6 t9 t10 t12 t13 t14 t15 t17 t18 t19 p0 s.heap.size) (cwV 1 hts (gV tw_3_163 tw_3_165 tw_p_17 tw_1_1 tw_3_166) rfl rfl rfl hdV_X11_isHouse ⟨Nat.le_of_ble_eq_true rfl, Nat.le_of_ble_eq_true rfl⟩) (cz_V hK hPc hDc hN (ci := 11) (q0 := 0) rfl rfl [.int p0]) rfl rfl hl.1 rfl (lv_room (Nat.le_of_ble_eq_true rfl)) dX11_glad_2 ⟨Nat.le_of_ble_eq_true rfl, Nat.le_of_ble_eq_true rfl⟩) hS (fun q _ h => hFc q h) hFc (fun r_1 uZ tZ H1 locs ht hvm hw hB hz1 hk1 hS => ?_)
  obtain ⟨hP1, hK1, hD1⟩ := hB
  rw [ht] at hP1
  obtain ⟨hP, hD⟩ := va_join (wr := []) (w1 := [(g, .inr (11, [.ref g0, .ref g1, .ref g2, .int 0, .ref g4, .ref g5, .ref g6, .ref g7, .ref g8, .ref g9, .ref g10, .ref g11, .ref g12])), (g1, .inr (10, [.int 0, .int 0, .int 0, .ref t3, .ref t4, .ref t5, .ref t6, .int 0, .int 0, .ref t9, .ref t10, .int 0, .ref t12, .ref t13, .ref t14, .ref t15, .int 0, .ref t17, .ref t18, .ref t19]))]) hP hD [0, 1] [] rfl rfl (by decide) (by decide) hk1 hFc hP1 hD1
  clear hK1 hP1 hD1 hPc hDc hFc
  clear hk1 hz1 ht hvm
  have hP : va_P D vwCl [(g, .inr (11, [.ref g0, .ref g1, .ref g2, .int 0, .ref g4, .ref g5, .ref g6, .ref g7, .ref g8, .ref g9, .ref g10, .ref g11, .ref g12])), (g1, .inr (10, [.int 0, .int 0, .int 0, .ref t3, .ref t4, .ref t5, .ref t6, .int 0, .int 0, .ref t9, .ref t10, .int 0, .ref t12, .ref t13, .ref t14, .ref t15, .int 0, .ref t17, .ref t18, .ref t19]))] H1 := hP
  have hD : va_D A [(g, .inr (11, [.ref g0, .ref g1, .ref g2, .int 0, .ref g4, .ref g5, .ref g6, .ref g7, .ref g8, .ref g9, .ref g10, .ref g11, .ref g12])), (g1, .inr (10, [.int 0, .int 0, .int 0, .ref t3, .ref t4, .ref t5, .ref t6, .int 0, .int 0, .ref t9, .ref t10, .int 0, .ref t12, .ref t13, .ref t14, .ref t15, .int 0, .ref t17, .ref t18, .ref t19]))] := hD
  generalize H1 = H at hP hS ⊢
  obtain rfl : r_1 = 0 := hw
  refine lv_if_ne (tgt := 11) hx hb dX11_glad_5 (by decide) (fun c9 => absurd c9 (by decide)) (fun _ => ?_)
  refine lv_bipush (v := (-2)) hx hb dX11_glad_8 (by decide) ?_
  have hP9 := hP.sub (ws' := [(g, .inr (11, [.ref g0, .ref g1, .ref g2, .int 0, .ref g4, .ref g5, .ref g6, .ref g7, .ref g8, .ref g9, .ref g10, .ref g11, .ref g12])), (g1, .inr (10, [.int 0, .int 0, .int 0, .ref t3, .ref t4, .ref t5, .ref t6, .int 0, .int 0, .ref t9, .ref t10, .int 0, .ref t12, .ref t13, .ref t14, .ref t15, .int 0, .ref t17, .ref t18, .ref t19]))]) [0, 1] rfl
  have hD9 := hD.sub (ws' := [(g, .inr (11, [.ref g0, .ref g1, .ref g2, .int 0, .ref g4, .ref g5, .ref g6, .ref g7, .ref g8, .ref g9, .ref g10, .ref g11, .ref g12])), (g1, .inr (10, [.int 0, .int 0, .int 0, .ref t3, .ref t4, .ref t5, .ref t6, .int 0, .int 0, .ref t9, .ref t10, .int 0, .ref t12, .ref t13, .ref t14, .ref t15, .int 0, .ref t17, .ref t18, .ref t19]))]) [0, 1] (by decide) rfl
  exact W.iret (v := (-2)) hx hb hr (fun tZ ht hW => ⟨⟨(-2), (), rfl, rfl, by rw [ht]; exact hP9, va_K.moved hW.alike hK, hD9⟩, hS.F ht⟩) hS.2.2 dX11_glad_10
set_option maxHeartbeats 4000000 in
set_option maxRecDepth 100000 in
theorem c_X11_all (l : Launch) (D : va_G) (k : Nat → ClassId) (g : Nat) (g0 : Nat) (g1 : Nat) (g2 : Nat) (g4 : Nat) (g5 : Nat) (g6 : Nat) (g7 : Nat) (g8 : Nat) (g9 : Nat) (g10 : Nat) (g11 : Nat) (g12 : Nat) (t3 : Nat) (t4 : Nat) (t5 : Nat) (t6 : Nat) (t9 : Nat) (t10 : Nat) (t12 : Nat) (t13 : Nat) (t14 : Nat) (t15 : Nat) (t17 : Nat) (t18 : Nat) (t19 : Nat) (sz : Nat) : Met l yX11_all (ww yX11_all cX11_all 1 (some .int)) ({ frames := 1, cells := 0, slots := 0, locals := 20 }) (Pre0 D k [(g, .inr (11, [.ref g0, .ref g1, .ref g2, .int 0, .ref g4, .ref g5, .ref g6, .ref g7, .ref g8, .ref g9, .ref g10, .ref g11, .ref g12])), (g1, .inr (10, [.int 0, .int 0, .int 0, .ref t3, .ref t4, .ref t5, .ref t6, .int 0, .int 0, .ref t9, .ref t10, .int 0, .ref t12, .ref t13, .ref t14, .ref t15, .int 0, .ref t17, .ref t18, .ref t19]))] sz [.ref g]) (va_Qi (fun (r : Int32) (_ : Unit) => r = (-2)) (fun (_ : Unit) tZ => Bw D k (va_A [(g, .inr (11, [.ref g0, .ref g1, .ref g2, .int 0, .ref g4, .ref g5, .ref g6, .ref g7, .ref g8, .ref g9, .ref g10, .ref g11, .ref g12])), (g1, .inr (10, [.int 0, .int 0, .int 0, .ref t3, .ref t4, .ref t5, .ref t6, .int 0, .int 0, .ref t9, .ref t10, .int 0, .ref t12, .ref t13, .ref t14, .ref t15, .int 0, .ref t17, .ref t18, .ref t19]))] sz) [(g, .inr (11, [.ref g0, .ref g1, .ref g2, .int 0, .ref g4, .ref g5, .ref g6, .ref g7, .ref g8, .ref g9, .ref g10, .ref g11, .ref g12])), (g1, .inr (10, [.int 0, .int 0, .int 0, .ref t3, .ref t4, .ref t5, .ref t6, .int 0, .int 0, .ref t9, .ref t10, .int 0, .ref t12, .ref t13, .ref t14, .ref t15, .int 0, .ref t17, .ref t18, .ref t19]))] tZ) (va_A [(g, .inr (11, [.ref g0, .ref g1, .ref g2, .int 0, .ref g4, .ref g5, .ref g6, .ref g7, .ref g8, .ref g9, .ref g10, .ref g11, .ref g12])), (g1, .inr (10, [.int 0, .int 0, .int 0, .ref t3, .ref t4, .ref t5, .ref t6, .int 0, .int 0, .ref t9, .ref t10, .int 0, .ref t12, .ref t13, .ref t14, .ref t15, .int 0, .ref t17, .ref t18, .ref t19]))] sz)) 0 0 (va_A [(g, .inr (11, [.ref g0, .ref g1, .ref g2, .int 0, .ref g4, .ref g5, .ref g6, .ref g7, .ref g8, .ref g9, .ref g10, .ref g11, .ref g12])), (g1, .inr (10, [.int 0, .int 0, .int 0, .ref t3, .ref t4, .ref t5, .ref t6, .int 0, .int 0, .ref t9, .ref t10, .int 0, .ref t12, .ref t13, .ref t14, .ref t15, .int 0, .ref t17, .ref t18, .ref t19]))] sz) := by
  refine Met.ofW (cc := cX11_all) (maxL := 1) (ret := (some .int)) (by decide +kernel) rfl ?_
  intro p e s m args below meth c s₁ B hml hv
  obtain ⟨rfl, hsz, hP, hK, hD0, hN⟩ := hv
  have hx := B.exec
  have hb := B.bytes
  have hr := B.returns
  have hts : ∀ w ∈ TT, w.before _ s = true := fun w h => atoms_spec (ws := ww yX11_all cX11_all 1 (some .int)) B.pre w (List.mem_cons_of_mem _ h)
  have hown : s.vm.findClass RX11 = some m.cls := findClass_of_methodNamed B.named
  have hlocks := B.notSynchronized
  subst hsz
  have hD := hD0.self (sz := s.heap.size)
  generalize hAe : va_A [(g, .inr (11, [.ref g0, .ref g1, .ref g2, .int 0, .ref g4, .ref g5, .ref g6, .ref g7, .ref g8, .ref g9, .ref g10, .ref g11, .ref g12])), (g1, .inr (10, [.int 0, .int 0, .int 0, .ref t3, .ref t4, .ref t5, .ref t6, .int 0, .int 0, .ref t9, .ref t10, .int 0, .ref t12, .ref t13, .ref t14, .ref t15, .int 0, .ref t17, .ref t18, .ref t19]))] s.heap.size = A at hD ⊢
  have hA : ∀ q : Nat, s.heap.size ≤ q → A q := fun q h => by rw [← hAe]; exact Or.inr h
  have hS : va_S A s.heap s.heap [] := va_S.rf
  have hl := lv_entry ([.ref g]) (n := 1) (Nat.le_of_ble_eq_true rfl)
  rw [lg_entry_eq]
  generalize (lg_sl ([.ref g]) ++ List.replicate (1 - (lg_sl ([.ref g])).length) Slot.unset).toArray = ls at hl ⊢
  have hl : lv_has ls 1 [(0, .ref g)] := hl
  refine lv_aload_n hx hb dX11_all_0 rfl (lv_at hl 0 rfl) ?_
  have hPc := hP.sub (ws' := [(g, .inr (11, [.ref g0, .ref g1, .ref g2, .int 0, .ref g4, .ref g5, .ref g6, .ref g7, .ref g8, .ref g9, .ref g10, .ref g11, .ref g12])), (g1, .inr (10, [.int 0, .int 0, .int 0, .ref t3, .ref t4, .ref t5, .ref t6, .int 0, .int 0, .ref t9, .ref t10, .int 0, .ref t12, .ref t13, .ref t14, .ref t15, .int 0, .ref t17, .ref t18, .ref t19]))]) [0, 1] rfl
  have hDc := hD.sub (ws' := [(g, .inr (11, [.ref g0, .ref g1, .ref g2, .int 0, .ref g4, .ref g5, .ref g6, .ref g7, .ref g8, .ref g9, .ref g10, .ref g11, .ref g12])), (g1, .inr (10, [.int 0, .int 0, .int 0, .ref t3, .ref t4, .ref t5, .ref t6, .int 0, .int 0, .ref t9, .ref t10, .int 0, .ref t12, .ref t13, .ref t14, .ref t15, .int 0, .ref t17, .ref t18, .ref t19]))]) [0, 1] (by decide) rfl
  have hFc := va_free (wc := [(g, .inr (11, [.ref g0, .ref g1, .ref g2, .int 0, .ref g4, .ref g5, .ref g6, .ref g7, .ref g8, .ref g9, .ref g10, .ref g11, .ref g12])), (g1, .inr (10, [.int 0, .int 0, .int 0, .ref t3, .ref t4, .ref t5, .ref t6, .int 0, .int 0, .ref t9, .ref t10, .int 0, .ref t12, .ref t13, .ref t14, .ref t15, .int 0, .ref t17, .ref t18, .ref t19]))]) hD hS hA [0, 1] rfl
  refine va_calli (va_runV (C := RX11) (As := []) (rest := []) ⟨hx, hb, hml, hown, hts⟩ (c_X11_hasNoTown l D k g g0 g1 g2 g4 g5 g6 g7 g8 g9 g10 g11 g12 t3 t4 t5 t6 t9 t10 t12 t13 t14 t15 t17 t18 t19 s.heap.size) (cwV 0 hts (gV tw_3_235 tw_3_237 tw_p_23 tw_1_1 tw_3_238) rfl rfl rfl hdV_X11_hasNoTown ⟨Nat.le_of_ble_eq_true rfl, Nat.le_of_ble_eq_true rfl⟩) (cz_V hK hPc hDc hN (ci := 11) (q0 := 0) rfl rfl []) rfl rfl hl.1 rfl (lv_room (Nat.le_of_ble_eq_true rfl)) dX11_all_1 ⟨Nat.le_of_ble_eq_true rfl, Nat.le_of_ble_eq_true rfl⟩) hS (fun q _ h => hFc q h) hFc (fun r_1 uZ tZ H1 locs ht hvm hw hB hz1 hk1 hS => ?_)
  obtain ⟨hP1, hK1, hD1⟩ := hB
  rw [ht] at hP1
  obtain ⟨hP, hD⟩ := va_join (wr := []) (w1 := [(g, .inr (11, [.ref g0, .ref g1, .ref g2, .int 0, .ref g4, .ref g5, .ref g6, .ref g7, .ref g8, .ref g9, .ref g10, .ref g11, .ref g12])), (g1, .inr (10, [.int 0, .int 0, .int 0, .ref t3, .ref t4, .ref t5, .ref t6, .int 0, .int 0, .ref t9, .ref t10, .int 0, .ref t12, .ref t13, .ref t14, .ref t15, .int 0, .ref t17, .ref t18, .ref t19]))]) hP hD [0, 1] [] rfl rfl (by decide) (by decide) hk1 hFc hP1 hD1
  clear hK1 hP1 hD1 hPc hDc hFc
  clear hk1 hz1 ht hvm
  have hP : va_P D vwCl [(g, .inr (11, [.ref g0, .ref g1, .ref g2, .int 0, .ref g4, .ref g5, .ref g6, .ref g7, .ref g8, .ref g9, .ref g10, .ref g11, .ref g12])), (g1, .inr (10, [.int 0, .int 0, .int 0, .ref t3, .ref t4, .ref t5, .ref t6, .int 0, .int 0, .ref t9, .ref t10, .int 0, .ref t12, .ref t13, .ref t14, .ref t15, .int 0, .ref t17, .ref t18, .ref t19]))] H1 := hP
  have hD : va_D A [(g, .inr (11, [.ref g0, .ref g1, .ref g2, .int 0, .ref g4, .ref g5, .ref g6, .ref g7, .ref g8, .ref g9, .ref g10, .ref g11, .ref g12])), (g1, .inr (10, [.int 0, .int 0, .int 0, .ref t3, .ref t4, .ref t5, .ref t6, .int 0, .int 0, .ref t9, .ref t10, .int 0, .ref t12, .ref t13, .ref t14, .ref t15, .int 0, .ref t17, .ref t18, .ref t19]))] := hD
  generalize H1 = H at hP hS ⊢
  obtain rfl : r_1 = 1 := hw
  refine lv_if_eq (tgt := 10) hx hb dX11_all_4 (by decide) (fun c9 => absurd c9 (by decide)) (fun _ => ?_)
  refine lv_bipush (v := (-2)) hx hb dX11_all_7 (by decide) ?_
  have hP9 := hP.sub (ws' := [(g, .inr (11, [.ref g0, .ref g1, .ref g2, .int 0, .ref g4, .ref g5, .ref g6, .ref g7, .ref g8, .ref g9, .ref g10, .ref g11, .ref g12])), (g1, .inr (10, [.int 0, .int 0, .int 0, .ref t3, .ref t4, .ref t5, .ref t6, .int 0, .int 0, .ref t9, .ref t10, .int 0, .ref t12, .ref t13, .ref t14, .ref t15, .int 0, .ref t17, .ref t18, .ref t19]))]) [0, 1] rfl
  have hD9 := hD.sub (ws' := [(g, .inr (11, [.ref g0, .ref g1, .ref g2, .int 0, .ref g4, .ref g5, .ref g6, .ref g7, .ref g8, .ref g9, .ref g10, .ref g11, .ref g12])), (g1, .inr (10, [.int 0, .int 0, .int 0, .ref t3, .ref t4, .ref t5, .ref t6, .int 0, .int 0, .ref t9, .ref t10, .int 0, .ref t12, .ref t13, .ref t14, .ref t15, .int 0, .ref t17, .ref t18, .ref t19]))]) [0, 1] (by decide) rfl
  exact W.iret (v := (-2)) hx hb hr (fun tZ ht hW => ⟨⟨(-2), (), rfl, rfl, by rw [ht]; exact hP9, va_K.moved hW.alike hK, hD9⟩, hS.F ht⟩) hS.2.2 dX11_all_9
set_option maxHeartbeats 4000000 in
set_option maxRecDepth 100000 in
theorem c_X11_steps (l : Launch) (D : va_G) (k : Nat → ClassId) (g : Nat) (g0 : Nat) (g1 : Nat) (g2 : Nat) (g4 : Nat) (g5 : Nat) (g6 : Nat) (g7 : Nat) (g8 : Nat) (g9 : Nat) (g10 : Nat) (g11 : Nat) (g12 : Nat) (t3 : Nat) (t4 : Nat) (t5 : Nat) (t6 : Nat) (t9 : Nat) (t10 : Nat) (t12 : Nat) (t13 : Nat) (t14 : Nat) (t15 : Nat) (t17 : Nat) (t18 : Nat) (t19 : Nat) (p0 : Int32) (sz : Nat) : Met l yX11_steps (ww yX11_steps cX11_steps 2 (some .int)) ({ frames := 1, cells := 0, slots := 0, locals := 21 }) (Pre0 D k [(g, .inr (11, [.ref g0, .ref g1, .ref g2, .int 0, .ref g4, .ref g5, .ref g6, .ref g7, .ref g8, .ref g9, .ref g10, .ref g11, .ref g12])), (g1, .inr (10, [.int 0, .int 0, .int 0, .ref t3, .ref t4, .ref t5, .ref t6, .int 0, .int 0, .ref t9, .ref t10, .int 0, .ref t12, .ref t13, .ref t14, .ref t15, .int 0, .ref t17, .ref t18, .ref t19]))] sz [.ref g, .int p0]) (va_Qi (fun (r : Int32) (_ : Unit) => r = (-2)) (fun (_ : Unit) tZ => Bw D k (va_A [(g, .inr (11, [.ref g0, .ref g1, .ref g2, .int 0, .ref g4, .ref g5, .ref g6, .ref g7, .ref g8, .ref g9, .ref g10, .ref g11, .ref g12])), (g1, .inr (10, [.int 0, .int 0, .int 0, .ref t3, .ref t4, .ref t5, .ref t6, .int 0, .int 0, .ref t9, .ref t10, .int 0, .ref t12, .ref t13, .ref t14, .ref t15, .int 0, .ref t17, .ref t18, .ref t19]))] sz) [(g, .inr (11, [.ref g0, .ref g1, .ref g2, .int 0, .ref g4, .ref g5, .ref g6, .ref g7, .ref g8, .ref g9, .ref g10, .ref g11, .ref g12])), (g1, .inr (10, [.int 0, .int 0, .int 0, .ref t3, .ref t4, .ref t5, .ref t6, .int 0, .int 0, .ref t9, .ref t10, .int 0, .ref t12, .ref t13, .ref t14, .ref t15, .int 0, .ref t17, .ref t18, .ref t19]))] tZ) (va_A [(g, .inr (11, [.ref g0, .ref g1, .ref g2, .int 0, .ref g4, .ref g5, .ref g6, .ref g7, .ref g8, .ref g9, .ref g10, .ref g11, .ref g12])), (g1, .inr (10, [.int 0, .int 0, .int 0, .ref t3, .ref t4, .ref t5, .ref t6, .int 0, .int 0, .ref t9, .ref t10, .int 0, .ref t12, .ref t13, .ref t14, .ref t15, .int 0, .ref t17, .ref t18, .ref t19]))] sz)) 0 0 (va_A [(g, .inr (11, [.ref g0, .ref g1, .ref g2, .int 0, .ref g4, .ref g5, .ref g6, .ref g7, .ref g8, .ref g9, .ref g10, .ref g11, .ref g12])), (g1, .inr (10, [.int 0, .int 0, .int 0, .ref t3, .ref t4, .ref t5, .ref t6, .int 0, .int 0, .ref t9, .ref t10, .int 0, .ref t12, .ref t13, .ref t14, .ref t15, .int 0, .ref t17, .ref t18, .ref t19]))] sz) := by
  refine Met.ofW (cc := cX11_steps) (maxL := 2) (ret := (some .int)) (by decide +kernel) rfl ?_
  intro p e s m args below meth c s₁ B hml hv
  obtain ⟨rfl, hsz, hP, hK, hD0, hN⟩ := hv
  have hx := B.exec
  have hb := B.bytes
  have hr := B.returns
  have hts : ∀ w ∈ TT, w.before _ s = true := fun w h => atoms_spec (ws := ww yX11_steps cX11_steps 2 (some .int)) B.pre w (List.mem_cons_of_mem _ h)
  have hown : s.vm.findClass RX11 = some m.cls := findClass_of_methodNamed B.named
  have hlocks := B.notSynchronized
  subst hsz
  have hD := hD0.self (sz := s.heap.size)
  generalize hAe : va_A [(g, .inr (11, [.ref g0, .ref g1, .ref g2, .int 0, .ref g4, .ref g5, .ref g6, .ref g7, .ref g8, .ref g9, .ref g10, .ref g11, .ref g12])), (g1, .inr (10, [.int 0, .int 0, .int 0, .ref t3, .ref t4, .ref t5, .ref t6, .int 0, .int 0, .ref t9, .ref t10, .int 0, .ref t12, .ref t13, .ref t14, .ref t15, .int 0, .ref t17, .ref t18, .ref t19]))] s.heap.size = A at hD ⊢
  have hA : ∀ q : Nat, s.heap.size ≤ q → A q := fun q h => by rw [← hAe]; exact Or.inr h
  have hS : va_S A s.heap s.heap [] := va_S.rf
  have hl := lv_entry ([.ref g, .int p0]) (n := 2) (Nat.le_of_ble_eq_true rfl)
  rw [lg_entry_eq]
  generalize (lg_sl ([.ref g, .int p0]) ++ List.replicate (2 - (lg_sl ([.ref g, .int p0])).length) Slot.unset).toArray = ls at hl ⊢
  have hl : lv_has ls 2 [(0, .ref g), (1, .int p0)] := hl
  refine lv_aload_n hx hb dX11_steps_0 rfl (lv_at hl 0 rfl) ?_
  refine lv_iload_n hx hb dX11_steps_1 rfl (lv_at hl 1 rfl) ?_
  have hPc := hP.sub (ws' := [(g, .inr (11, [.ref g0, .ref g1, .ref g2, .int 0, .ref g4, .ref g5, .ref g6, .ref g7, .ref g8, .ref g9, .ref g10, .ref g11, .ref g12])), (g1, .inr (10, [.int 0, .int 0, .int 0, .ref t3, .ref t4, .ref t5, .ref t6, .int 0, .int 0, .ref t9, .ref t10, .int 0, .ref t12, .ref t13, .ref t14, .ref t15, .int 0, .ref t17, .ref t18, .ref t19]))]) [0, 1] rfl
  have hDc := hD.sub (ws' := [(g, .inr (11, [.ref g0, .ref g1, .ref g2, .int 0, .ref g4, .ref g5, .ref g6, .ref g7, .ref g8, .ref g9, .ref g10, .ref g11, .ref g12])), (g1, .inr (10, [.int 0, .int 0, .int 0, .ref t3, .ref t4, .ref t5, .ref t6, .int 0, .int 0, .ref t9, .ref t10, .int 0, .ref t12, .ref t13, .ref t14, .ref t15, .int 0, .ref t17, .ref t18, .ref t19]))]) [0, 1] (by decide) rfl
  have hFc := va_free (wc := [(g, .inr (11, [.ref g0, .ref g1, .ref g2, .int 0, .ref g4, .ref g5, .ref g6, .ref g7, .ref g8, .ref g9, .ref g10, .ref g11, .ref g12])), (g1, .inr (10, [.int 0, .int 0, .int 0, .ref t3, .ref t4, .ref t5, .ref t6, .int 0, .int 0, .ref t9, .ref t10, .int 0, .ref t12, .ref t13, .ref t14, .ref t15, .int 0, .ref t17, .ref t18, .ref t19]))]) hD hS hA [0, 1] rfl
  refine va_calli (va_runV (C := RX11) (As := [.int p0]) (rest := []) ⟨hx, hb, hml, hown, hts⟩ (c_X11_isStreet l D k g g0 g1 g2 g4 g5 g6 g7 g8 g9 g10 g11 g12 t3 t4 t5 t6 t9 t10 t12 t13 t14 t15 t17 t18 t19 p0 s.heap.size) (cwV 1 hts (gV tw_3_171 tw_3_173 tw_p_18 tw_1_1 tw_3_174) rfl rfl rfl hdV_X11_isStreet ⟨Nat.le_of_ble_eq_true rfl, Nat.le_of_ble_eq_true rfl⟩) (cz_V hK hPc hDc hN (ci := 11) (q0 := 0) rfl rfl [.int p0]) rfl rfl hl.1 rfl (lv_room (Nat.le_of_ble_eq_true rfl)) dX11_steps_2 ⟨Nat.le_of_ble_eq_true rfl, Nat.le_of_ble_eq_true rfl⟩) hS (fun q _ h => hFc q h) hFc (fun r_1 uZ tZ H1 locs ht hvm hw hB hz1 hk1 hS => ?_)
  obtain ⟨hP1, hK1, hD1⟩ := hB
  rw [ht] at hP1
  obtain ⟨hP, hD⟩ := va_join (wr := []) (w1 := [(g, .inr (11, [.ref g0, .ref g1, .ref g2, .int 0, .ref g4, .ref g5, .ref g6, .ref g7, .ref g8, .ref g9, .ref g10, .ref g11, .ref g12])), (g1, .inr (10, [.int 0, .int 0, .int 0, .ref t3, .ref t4, .ref t5, .ref t6, .int 0, .int 0, .ref t9, .ref t10, .int 0, .ref t12, .ref t13, .ref t14, .ref t15, .int 0, .ref t17, .ref t18, .ref t19]))]) hP hD [0, 1] [] rfl rfl (by decide) (by decide) hk1 hFc hP1 hD1
  clear hK1 hP1 hD1 hPc hDc hFc
  clear hk1 hz1 ht hvm
  have hP : va_P D vwCl [(g, .inr (11, [.ref g0, .ref g1, .ref g2, .int 0, .ref g4, .ref g5, .ref g6, .ref g7, .ref g8, .ref g9, .ref g10, .ref g11, .ref g12])), (g1, .inr (10, [.int 0, .int 0, .int 0, .ref t3, .ref t4, .ref t5, .ref t6, .int 0, .int 0, .ref t9, .ref t10, .int 0, .ref t12, .ref t13, .ref t14, .ref t15, .int 0, .ref t17, .ref t18, .ref t19]))] H1 := hP
  have hD : va_D A [(g, .inr (11, [.ref g0, .ref g1, .ref g2, .int 0, .ref g4, .ref g5, .ref g6, .ref g7, .ref g8, .ref g9, .ref g10, .ref g11, .ref g12])), (g1, .inr (10, [.int 0, .int 0, .int 0, .ref t3, .ref t4, .ref t5, .ref t6, .int 0, .int 0, .ref t9, .ref t10, .int 0, .ref t12, .ref t13, .ref t14, .ref t15, .int 0, .ref t17, .ref t18, .ref t19]))] := hD
  generalize H1 = H at hP hS ⊢
  obtain rfl : r_1 = 0 := hw
  refine lv_if_ne (tgt := 11) hx hb dX11_steps_5 (by decide) (fun c9 => absurd c9 (by decide)) (fun _ => ?_)
  refine lv_bipush (v := (-2)) hx hb dX11_steps_8 (by decide) ?_
  have hP9 := hP.sub (ws' := [(g, .inr (11, [.ref g0, .ref g1, .ref g2, .int 0, .ref g4, .ref g5, .ref g6, .ref g7, .ref g8, .ref g9, .ref g10, .ref g11, .ref g12])), (g1, .inr (10, [.int 0, .int 0, .int 0, .ref t3, .ref t4, .ref t5, .ref t6, .int 0, .int 0, .ref t9, .ref t10, .int 0, .ref t12, .ref t13, .ref t14, .ref t15, .int 0, .ref t17, .ref t18, .ref t19]))]) [0, 1] rfl
  have hD9 := hD.sub (ws' := [(g, .inr (11, [.ref g0, .ref g1, .ref g2, .int 0, .ref g4, .ref g5, .ref g6, .ref g7, .ref g8, .ref g9, .ref g10, .ref g11, .ref g12])), (g1, .inr (10, [.int 0, .int 0, .int 0, .ref t3, .ref t4, .ref t5, .ref t6, .int 0, .int 0, .ref t9, .ref t10, .int 0, .ref t12, .ref t13, .ref t14, .ref t15, .int 0, .ref t17, .ref t18, .ref t19]))]) [0, 1] (by decide) rfl
  exact W.iret (v := (-2)) hx hb hr (fun tZ ht hW => ⟨⟨(-2), (), rfl, rfl, by rw [ht]; exact hP9, va_K.moved hW.alike hK, hD9⟩, hS.F ht⟩) hS.2.2 dX11_steps_10
set_option maxHeartbeats 4000000 in
set_option maxRecDepth 100000 in
theorem c_X11_have (l : Launch) (D : va_G) (k : Nat → ClassId) (g : Nat) (g0 : Nat) (g1 : Nat) (g2 : Nat) (g4 : Nat) (g5 : Nat) (g6 : Nat) (g7 : Nat) (g8 : Nat) (g9 : Nat) (g10 : Nat) (g11 : Nat) (g12 : Nat) (t3 : Nat) (t4 : Nat) (t5 : Nat) (t6 : Nat) (t9 : Nat) (t10 : Nat) (t12 : Nat) (t13 : Nat) (t14 : Nat) (t15 : Nat) (t17 : Nat) (t18 : Nat) (t19 : Nat) (p0 : Int32) (sz : Nat) : Met l yX11_have (ww yX11_have cX11_have 4 (some .int)) ({ frames := 1, cells := 0, slots := 0, locals := 20 }) (Pre0 D k [(g, .inr (11, [.ref g0, .ref g1, .ref g2, .int 0, .ref g4, .ref g5, .ref g6, .ref g7, .ref g8, .ref g9, .ref g10, .ref g11, .ref g12])), (g1, .inr (10, [.int 0, .int 0, .int 0, .ref t3, .ref t4, .ref t5, .ref t6, .int 0, .int 0, .ref t9, .ref t10, .int 0, .ref t12, .ref t13, .ref t14, .ref t15, .int 0, .ref t17, .ref t18, .ref t19]))] sz [.ref g, .int p0]) (va_Qi (fun (r : Int32) (_ : Unit) => r = (-2)) (fun (_ : Unit) tZ => Bw D k (va_A [(g, .inr (11, [.ref g0, .ref g1, .ref g2, .int 0, .ref g4, .ref g5, .ref g6, .ref g7, .ref g8, .ref g9, .ref g10, .ref g11, .ref g12])), (g1, .inr (10, [.int 0, .int 0, .int 0, .ref t3, .ref t4, .ref t5, .ref t6, .int 0, .int 0, .ref t9, .ref t10, .int 0, .ref t12, .ref t13, .ref t14, .ref t15, .int 0, .ref t17, .ref t18, .ref t19]))] sz) [(g, .inr (11, [.ref g0, .ref g1, .ref g2, .int 0, .ref g4, .ref g5, .ref g6, .ref g7, .ref g8, .ref g9, .ref g10, .ref g11, .ref g12])), (g1, .inr (10, [.int 0, .int 0, .int 0, .ref t3, .ref t4, .ref t5, .ref t6, .int 0, .int 0, .ref t9, .ref t10, .int 0, .ref t12, .ref t13, .ref t14, .ref t15, .int 0, .ref t17, .ref t18, .ref t19]))] tZ) (va_A [(g, .inr (11, [.ref g0, .ref g1, .ref g2, .int 0, .ref g4, .ref g5, .ref g6, .ref g7, .ref g8, .ref g9, .ref g10, .ref g11, .ref g12])), (g1, .inr (10, [.int 0, .int 0, .int 0, .ref t3, .ref t4, .ref t5, .ref t6, .int 0, .int 0, .ref t9, .ref t10, .int 0, .ref t12, .ref t13, .ref t14, .ref t15, .int 0, .ref t17, .ref t18, .ref t19]))] sz)) 0 0 (va_A [(g, .inr (11, [.ref g0, .ref g1, .ref g2, .int 0, .ref g4, .ref g5, .ref g6, .ref g7, .ref g8, .ref g9, .ref g10, .ref g11, .ref g12])), (g1, .inr (10, [.int 0, .int 0, .int 0, .ref t3, .ref t4, .ref t5, .ref t6, .int 0, .int 0, .ref t9, .ref t10, .int 0, .ref t12, .ref t13, .ref t14, .ref t15, .int 0, .ref t17, .ref t18, .ref t19]))] sz) := by
  refine Met.ofW (cc := cX11_have) (maxL := 4) (ret := (some .int)) (by decide +kernel) rfl ?_
  intro p e s m args below meth c s₁ B hml hv
  obtain ⟨rfl, hsz, hP, hK, hD0, hN⟩ := hv
  have hx := B.exec
  have hb := B.bytes
  have hr := B.returns
  have hts : ∀ w ∈ TT, w.before _ s = true := fun w h => atoms_spec (ws := ww yX11_have cX11_have 4 (some .int)) B.pre w (List.mem_cons_of_mem _ h)
  have hown : s.vm.findClass RX11 = some m.cls := findClass_of_methodNamed B.named
  have hlocks := B.notSynchronized
  subst hsz
  have hD := hD0.self (sz := s.heap.size)
  generalize hAe : va_A [(g, .inr (11, [.ref g0, .ref g1, .ref g2, .int 0, .ref g4, .ref g5, .ref g6, .ref g7, .ref g8, .ref g9, .ref g10, .ref g11, .ref g12])), (g1, .inr (10, [.int 0, .int 0, .int 0, .ref t3, .ref t4, .ref t5, .ref t6, .int 0, .int 0, .ref t9, .ref t10, .int 0, .ref t12, .ref t13, .ref t14, .ref t15, .int 0, .ref t17, .ref t18, .ref t19]))] s.heap.size = A at hD ⊢
  have hA : ∀ q : Nat, s.heap.size ≤ q → A q := fun q h => by rw [← hAe]; exact Or.inr h
  have hS : va_S A s.heap s.heap [] := va_S.rf
  have hl := lv_entry ([.ref g, .int p0]) (n := 4) (Nat.le_of_ble_eq_true rfl)
  rw [lg_entry_eq]
  generalize (lg_sl ([.ref g, .int p0]) ++ List.replicate (4 - (lg_sl ([.ref g, .int p0])).length) Slot.unset).toArray = ls at hl ⊢
  have hl : lv_has ls 4 [(0, .ref g), (1, .int p0)] := hl
  refine lv_aload_n hx hb dX11_have_0 rfl (lv_at hl 0 rfl) ?_
  have hPc := hP.sub (ws' := [(g, .inr (11, [.ref g0, .ref g1, .ref g2, .int 0, .ref g4, .ref g5, .ref g6, .ref g7, .ref g8, .ref g9, .ref g10, .ref g11, .ref g12])), (g1, .inr (10, [.int 0, .int 0, .int 0, .ref t3, .ref t4, .ref t5, .ref t6, .int 0, .int 0, .ref t9, .ref t10, .int 0, .ref t12, .ref t13, .ref t14, .ref t15, .int 0, .ref t17, .ref t18, .ref t19]))]) [0, 1] rfl
  have hDc := hD.sub (ws' := [(g, .inr (11, [.ref g0, .ref g1, .ref g2, .int 0, .ref g4, .ref g5, .ref g6, .ref g7, .ref g8, .ref g9, .ref g10, .ref g11, .ref g12])), (g1, .inr (10, [.int 0, .int 0, .int 0, .ref t3, .ref t4, .ref t5, .ref t6, .int 0, .int 0, .ref t9, .ref t10, .int 0, .ref t12, .ref t13, .ref t14, .ref t15, .int 0, .ref t17, .ref t18, .ref t19]))]) [0, 1] (by decide) rfl
  have hFc := va_free (wc := [(g, .inr (11, [.ref g0, .ref g1, .ref g2, .int 0, .ref g4, .ref g5, .ref g6, .ref g7, .ref g8, .ref g9, .ref g10, .ref g11, .ref g12])), (g1, .inr (10, [.int 0, .int 0, .int 0, .ref t3, .ref t4, .ref t5, .ref t6, .int 0, .int 0, .ref t9, .ref t10, .int 0, .ref t12, .ref t13, .ref t14, .ref t15, .int 0, .ref t17, .ref t18, .ref t19]))]) hD hS hA [0, 1] rfl
  refine va_calli (va_runV (C := RX11) (As := []) (rest := []) ⟨hx, hb, hml, hown, hts⟩ (c_X11_hasNoTown l D k g g0 g1 g2 g4 g5 g6 g7 g8 g9 g10 g11 g12 t3 t4 t5 t6 t9 t10 t12 t13 t14 t15 t17 t18 t19 s.heap.size) (cwV 0 hts (gV tw_3_235 tw_3_237 tw_p_23 tw_1_1 tw_3_238) rfl rfl rfl hdV_X11_hasNoTown ⟨Nat.le_of_ble_eq_true rfl, Nat.le_of_ble_eq_true rfl⟩) (cz_V hK hPc hDc hN (ci := 11) (q0 := 0) rfl rfl []) rfl rfl hl.1 rfl (lv_room (Nat.le_of_ble_eq_true rfl)) dX11_have_1 ⟨Nat.le_of_ble_eq_true rfl, Nat.le_of_ble_eq_true rfl⟩) hS (fun q _ h => hFc q h) hFc (fun r_1 uZ tZ H1 locs ht hvm hw hB hz1 hk1 hS => ?_)
  obtain ⟨hP1, hK1, hD1⟩ := hB
  rw [ht] at hP1
  obtain ⟨hP, hD⟩ := va_join (wr := []) (w1 := [(g, .inr (11, [.ref g0, .ref g1, .ref g2, .int 0, .ref g4, .ref g5, .ref g6, .ref g7, .ref g8, .ref g9, .ref g10, .ref g11, .ref g12])), (g1, .inr (10, [.int 0, .int 0, .int 0, .ref t3, .ref t4, .ref t5, .ref t6, .int 0, .int 0, .ref t9, .ref t10, .int 0, .ref t12, .ref t13, .ref t14, .ref t15, .int 0, .ref t17, .ref t18, .ref t19]))]) hP hD [0, 1] [] rfl rfl (by decide) (by decide) hk1 hFc hP1 hD1
  clear hK1 hP1 hD1 hPc hDc hFc
  clear hk1 hz1 ht hvm
  have hP : va_P D vwCl [(g, .inr (11, [.ref g0, .ref g1, .ref g2, .int 0, .ref g4, .ref g5, .ref g6, .ref g7, .ref g8, .ref g9, .ref g10, .ref g11, .ref g12])), (g1, .inr (10, [.int 0, .int 0, .int 0, .ref t3, .ref t4, .ref t5, .ref t6, .int 0, .int 0, .ref t9, .ref t10, .int 0, .ref t12, .ref t13, .ref t14, .ref t15, .int 0, .ref t17, .ref t18, .ref t19]))] H1 := hP
  have hD : va_D A [(g, .inr (11, [.ref g0, .ref g1, .ref g2, .int 0, .ref g4, .ref g5, .ref g6, .ref g7, .ref g8, .ref g9, .ref g10, .ref g11, .ref g12])), (g1, .inr (10, [.int 0, .int 0, .int 0, .ref t3, .ref t4, .ref t5, .ref t6, .int 0, .int 0, .ref t9, .ref t10, .int 0, .ref t12, .ref t13, .ref t14, .ref t15, .int 0, .ref t17, .ref t18, .ref t19]))] := hD
  generalize H1 = H at hP hS ⊢
  obtain rfl : r_1 = 1 := hw
  refine lv_if_ne (tgt := 14) hx hb dX11_have_4 (by decide) (fun _ => ?_) (fun c9 => absurd c9 (by decide))
  refine lv_bipush (v := (-2)) hx hb dX11_have_14 (by decide) ?_
  have hP9 := hP.sub (ws' := [(g, .inr (11, [.ref g0, .ref g1, .ref g2, .int 0, .ref g4, .ref g5, .ref g6, .ref g7, .ref g8, .ref g9, .ref g10, .ref g11, .ref g12])), (g1, .inr (10, [.int 0, .int 0, .int 0, .ref t3, .ref t4, .ref t5, .ref t6, .int 0, .int 0, .ref t9, .ref t10, .int 0, .ref t12, .ref t13, .ref t14, .ref t15, .int 0, .ref t17, .ref t18, .ref t19]))]) [0, 1] rfl
  have hD9 := hD.sub (ws' := [(g, .inr (11, [.ref g0, .ref g1, .ref g2, .int 0, .ref g4, .ref g5, .ref g6, .ref g7, .ref g8, .ref g9, .ref g10, .ref g11, .ref g12])), (g1, .inr (10, [.int 0, .int 0, .int 0, .ref t3, .ref t4, .ref t5, .ref t6, .int 0, .int 0, .ref t9, .ref t10, .int 0, .ref t12, .ref t13, .ref t14, .ref t15, .int 0, .ref t17, .ref t18, .ref t19]))]) [0, 1] (by decide) rfl
  exact W.iret (v := (-2)) hx hb hr (fun tZ ht hW => ⟨⟨(-2), (), rfl, rfl, by rw [ht]; exact hP9, va_K.moved hW.alike hK, hD9⟩, hS.F ht⟩) hS.2.2 dX11_have_16
set_option maxHeartbeats 4000000 in
set_option maxRecDepth 100000 in
theorem c_X11_gladdest (l : Launch) (D : va_G) (k : Nat → ClassId) (g : Nat) (g0 : Nat) (g1 : Nat) (g2 : Nat) (g4 : Nat) (g5 : Nat) (g6 : Nat) (g7 : Nat) (g8 : Nat) (g9 : Nat) (g10 : Nat) (g11 : Nat) (g12 : Nat) (t3 : Nat) (t4 : Nat) (t5 : Nat) (t6 : Nat) (t9 : Nat) (t10 : Nat) (t12 : Nat) (t13 : Nat) (t14 : Nat) (t15 : Nat) (t17 : Nat) (t18 : Nat) (t19 : Nat) (sz : Nat) : Met l yX11_gladdest (ww yX11_gladdest cX11_gladdest 5 (some .int)) ({ frames := 1, cells := 0, slots := 0, locals := 20 }) (Pre0 D k [(g, .inr (11, [.ref g0, .ref g1, .ref g2, .int 0, .ref g4, .ref g5, .ref g6, .ref g7, .ref g8, .ref g9, .ref g10, .ref g11, .ref g12])), (g1, .inr (10, [.int 0, .int 0, .int 0, .ref t3, .ref t4, .ref t5, .ref t6, .int 0, .int 0, .ref t9, .ref t10, .int 0, .ref t12, .ref t13, .ref t14, .ref t15, .int 0, .ref t17, .ref t18, .ref t19]))] sz [.ref g]) (va_Qi (fun (r : Int32) (_ : Unit) => r = (-2)) (fun (_ : Unit) tZ => Bw D k (va_A [(g, .inr (11, [.ref g0, .ref g1, .ref g2, .int 0, .ref g4, .ref g5, .ref g6, .ref g7, .ref g8, .ref g9, .ref g10, .ref g11, .ref g12])), (g1, .inr (10, [.int 0, .int 0, .int 0, .ref t3, .ref t4, .ref t5, .ref t6, .int 0, .int 0, .ref t9, .ref t10, .int 0, .ref t12, .ref t13, .ref t14, .ref t15, .int 0, .ref t17, .ref t18, .ref t19]))] sz) [(g, .inr (11, [.ref g0, .ref g1, .ref g2, .int 0, .ref g4, .ref g5, .ref g6, .ref g7, .ref g8, .ref g9, .ref g10, .ref g11, .ref g12])), (g1, .inr (10, [.int 0, .int 0, .int 0, .ref t3, .ref t4, .ref t5, .ref t6, .int 0, .int 0, .ref t9, .ref t10, .int 0, .ref t12, .ref t13, .ref t14, .ref t15, .int 0, .ref t17, .ref t18, .ref t19]))] tZ) (va_A [(g, .inr (11, [.ref g0, .ref g1, .ref g2, .int 0, .ref g4, .ref g5, .ref g6, .ref g7, .ref g8, .ref g9, .ref g10, .ref g11, .ref g12])), (g1, .inr (10, [.int 0, .int 0, .int 0, .ref t3, .ref t4, .ref t5, .ref t6, .int 0, .int 0, .ref t9, .ref t10, .int 0, .ref t12, .ref t13, .ref t14, .ref t15, .int 0, .ref t17, .ref t18, .ref t19]))] sz)) 0 0 (va_A [(g, .inr (11, [.ref g0, .ref g1, .ref g2, .int 0, .ref g4, .ref g5, .ref g6, .ref g7, .ref g8, .ref g9, .ref g10, .ref g11, .ref g12])), (g1, .inr (10, [.int 0, .int 0, .int 0, .ref t3, .ref t4, .ref t5, .ref t6, .int 0, .int 0, .ref t9, .ref t10, .int 0, .ref t12, .ref t13, .ref t14, .ref t15, .int 0, .ref t17, .ref t18, .ref t19]))] sz) := by
  refine Met.ofW (cc := cX11_gladdest) (maxL := 5) (ret := (some .int)) (by decide +kernel) rfl ?_
  intro p e s m args below meth c s₁ B hml hv
  obtain ⟨rfl, hsz, hP, hK, hD0, hN⟩ := hv
  have hx := B.exec
  have hb := B.bytes
  have hr := B.returns
  have hts : ∀ w ∈ TT, w.before _ s = true := fun w h => atoms_spec (ws := ww yX11_gladdest cX11_gladdest 5 (some .int)) B.pre w (List.mem_cons_of_mem _ h)
  have hown : s.vm.findClass RX11 = some m.cls := findClass_of_methodNamed B.named
  have hlocks := B.notSynchronized
  subst hsz
  have hD := hD0.self (sz := s.heap.size)
  generalize hAe : va_A [(g, .inr (11, [.ref g0, .ref g1, .ref g2, .int 0, .ref g4, .ref g5, .ref g6, .ref g7, .ref g8, .ref g9, .ref g10, .ref g11, .ref g12])), (g1, .inr (10, [.int 0, .int 0, .int 0, .ref t3, .ref t4, .ref t5, .ref t6, .int 0, .int 0, .ref t9, .ref t10, .int 0, .ref t12, .ref t13, .ref t14, .ref t15, .int 0, .ref t17, .ref t18, .ref t19]))] s.heap.size = A at hD ⊢
  have hA : ∀ q : Nat, s.heap.size ≤ q → A q := fun q h => by rw [← hAe]; exact Or.inr h
  have hS : va_S A s.heap s.heap [] := va_S.rf
  have hl := lv_entry ([.ref g]) (n := 5) (Nat.le_of_ble_eq_true rfl)
  rw [lg_entry_eq]
  generalize (lg_sl ([.ref g]) ++ List.replicate (5 - (lg_sl ([.ref g])).length) Slot.unset).toArray = ls at hl ⊢
  have hl : lv_has ls 5 [(0, .ref g)] := hl
  refine lv_aload_n hx hb dX11_gladdest_0 rfl (lv_at hl 0 rfl) ?_
  have hPc := hP.sub (ws' := [(g, .inr (11, [.ref g0, .ref g1, .ref g2, .int 0, .ref g4, .ref g5, .ref g6, .ref g7, .ref g8, .ref g9, .ref g10, .ref g11, .ref g12])), (g1, .inr (10, [.int 0, .int 0, .int 0, .ref t3, .ref t4, .ref t5, .ref t6, .int 0, .int 0, .ref t9, .ref t10, .int 0, .ref t12, .ref t13, .ref t14, .ref t15, .int 0, .ref t17, .ref t18, .ref t19]))]) [0, 1] rfl
  have hDc := hD.sub (ws' := [(g, .inr (11, [.ref g0, .ref g1, .ref g2, .int 0, .ref g4, .ref g5, .ref g6, .ref g7, .ref g8, .ref g9, .ref g10, .ref g11, .ref g12])), (g1, .inr (10, [.int 0, .int 0, .int 0, .ref t3, .ref t4, .ref t5, .ref t6, .int 0, .int 0, .ref t9, .ref t10, .int 0, .ref t12, .ref t13, .ref t14, .ref t15, .int 0, .ref t17, .ref t18, .ref t19]))]) [0, 1] (by decide) rfl
  have hFc := va_free (wc := [(g, .inr (11, [.ref g0, .ref g1, .ref g2, .int 0, .ref g4, .ref g5, .ref g6, .ref g7, .ref g8, .ref g9, .ref g10, .ref g11, .ref g12])), (g1, .inr (10, [.int 0, .int 0, .int 0, .ref t3, .ref t4, .ref t5, .ref t6, .int 0, .int 0, .ref t9, .ref t10, .int 0, .ref t12, .ref t13, .ref t14, .ref t15, .int 0, .ref t17, .ref t18, .ref t19]))]) hD hS hA [0, 1] rfl
  refine va_calli (va_runV (C := RX11) (As := []) (rest := []) ⟨hx, hb, hml, hown, hts⟩ (c_X11_hasNoTown l D k g g0 g1 g2 g4 g5 g6 g7 g8 g9 g10 g11 g12 t3 t4 t5 t6 t9 t10 t12 t13 t14 t15 t17 t18 t19 s.heap.size) (cwV 0 hts (gV tw_3_235 tw_3_237 tw_p_23 tw_1_1 tw_3_238) rfl rfl rfl hdV_X11_hasNoTown ⟨Nat.le_of_ble_eq_true rfl, Nat.le_of_ble_eq_true rfl⟩) (cz_V hK hPc hDc hN (ci := 11) (q0 := 0) rfl rfl []) rfl rfl hl.1 rfl (lv_room (Nat.le_of_ble_eq_true rfl)) dX11_gladdest_1 ⟨Nat.le_of_ble_eq_true rfl, Nat.le_of_ble_eq_true rfl⟩) hS (fun q _ h => hFc q h) hFc (fun r_1 uZ tZ H1 locs ht hvm hw hB hz1 hk1 hS => ?_)
  obtain ⟨hP1, hK1, hD1⟩ := hB
  rw [ht] at hP1
  obtain ⟨hP, hD⟩ := va_join (wr := []) (w1 := [(g, .inr (11, [.ref g0, .ref g1, .ref g2, .int 0, .ref g4, .ref g5, .ref g6, .ref g7, .ref g8, .ref g9, .ref g10, .ref g11, .ref g12])), (g1, .inr (10, [.int 0, .int 0, .int 0, .ref t3, .ref t4, .ref t5, .ref t6, .int 0, .int 0, .ref t9, .ref t10, .int 0, .ref t12, .ref t13, .ref t14, .ref t15, .int 0, .ref t17, .ref t18, .ref t19]))]) hP hD [0, 1] [] rfl rfl (by decide) (by decide) hk1 hFc hP1 hD1
  clear hK1 hP1 hD1 hPc hDc hFc
  clear hk1 hz1 ht hvm
  have hP : va_P D vwCl [(g, .inr (11, [.ref g0, .ref g1, .ref g2, .int 0, .ref g4, .ref g5, .ref g6, .ref g7, .ref g8, .ref g9, .ref g10, .ref g11, .ref g12])), (g1, .inr (10, [.int 0, .int 0, .int 0, .ref t3, .ref t4, .ref t5, .ref t6, .int 0, .int 0, .ref t9, .ref t10, .int 0, .ref t12, .ref t13, .ref t14, .ref t15, .int 0, .ref t17, .ref t18, .ref t19]))] H1 := hP
  have hD : va_D A [(g, .inr (11, [.ref g0, .ref g1, .ref g2, .int 0, .ref g4, .ref g5, .ref g6, .ref g7, .ref g8, .ref g9, .ref g10, .ref g11, .ref g12])), (g1, .inr (10, [.int 0, .int 0, .int 0, .ref t3, .ref t4, .ref t5, .ref t6, .int 0, .int 0, .ref t9, .ref t10, .int 0, .ref t12, .ref t13, .ref t14, .ref t15, .int 0, .ref t17, .ref t18, .ref t19]))] := hD
  generalize H1 = H at hP hS ⊢
  obtain rfl : r_1 = 1 := hw
  refine lv_if_eq (tgt := 10) hx hb dX11_gladdest_4 (by decide) (fun c9 => absurd c9 (by decide)) (fun _ => ?_)
  refine lv_bipush (v := (-2)) hx hb dX11_gladdest_7 (by decide) ?_
  have hP9 := hP.sub (ws' := [(g, .inr (11, [.ref g0, .ref g1, .ref g2, .int 0, .ref g4, .ref g5, .ref g6, .ref g7, .ref g8, .ref g9, .ref g10, .ref g11, .ref g12])), (g1, .inr (10, [.int 0, .int 0, .int 0, .ref t3, .ref t4, .ref t5, .ref t6, .int 0, .int 0, .ref t9, .ref t10, .int 0, .ref t12, .ref t13, .ref t14, .ref t15, .int 0, .ref t17, .ref t18, .ref t19]))]) [0, 1] rfl
  have hD9 := hD.sub (ws' := [(g, .inr (11, [.ref g0, .ref g1, .ref g2, .int 0, .ref g4, .ref g5, .ref g6, .ref g7, .ref g8, .ref g9, .ref g10, .ref g11, .ref g12])), (g1, .inr (10, [.int 0, .int 0, .int 0, .ref t3, .ref t4, .ref t5, .ref t6, .int 0, .int 0, .ref t9, .ref t10, .int 0, .ref t12, .ref t13, .ref t14, .ref t15, .int 0, .ref t17, .ref t18, .ref t19]))]) [0, 1] (by decide) rfl
  exact W.iret (v := (-2)) hx hb hr (fun tZ ht hW => ⟨⟨(-2), (), rfl, rfl, by rw [ht]; exact hP9, va_K.moved hW.alike hK, hD9⟩, hS.F ht⟩) hS.2.2 dX11_gladdest_9
set_option maxHeartbeats 4000000 in
set_option maxRecDepth 100000 in
theorem c_X11_best (l : Launch) (D : va_G) (k : Nat → ClassId) (g : Nat) (g0 : Nat) (g1 : Nat) (g2 : Nat) (g4 : Nat) (g5 : Nat) (g6 : Nat) (g7 : Nat) (g8 : Nat) (g9 : Nat) (g10 : Nat) (g11 : Nat) (g12 : Nat) (t3 : Nat) (t4 : Nat) (t5 : Nat) (t6 : Nat) (t9 : Nat) (t10 : Nat) (t12 : Nat) (t13 : Nat) (t14 : Nat) (t15 : Nat) (t17 : Nat) (t18 : Nat) (t19 : Nat) (p0 : Int32) (sz : Nat) : Met l yX11_best (ww yX11_best cX11_best 2 (some .int)) ({ frames := 1, cells := 0, slots := 0, locals := 20 }) (Pre0 D k [(g, .inr (11, [.ref g0, .ref g1, .ref g2, .int 0, .ref g4, .ref g5, .ref g6, .ref g7, .ref g8, .ref g9, .ref g10, .ref g11, .ref g12])), (g1, .inr (10, [.int 0, .int 0, .int 0, .ref t3, .ref t4, .ref t5, .ref t6, .int 0, .int 0, .ref t9, .ref t10, .int 0, .ref t12, .ref t13, .ref t14, .ref t15, .int 0, .ref t17, .ref t18, .ref t19]))] sz [.ref g, .int p0]) (va_Qi (fun (r : Int32) (_ : Unit) => r = (-2)) (fun (_ : Unit) tZ => Bw D k (va_A [(g, .inr (11, [.ref g0, .ref g1, .ref g2, .int 0, .ref g4, .ref g5, .ref g6, .ref g7, .ref g8, .ref g9, .ref g10, .ref g11, .ref g12])), (g1, .inr (10, [.int 0, .int 0, .int 0, .ref t3, .ref t4, .ref t5, .ref t6, .int 0, .int 0, .ref t9, .ref t10, .int 0, .ref t12, .ref t13, .ref t14, .ref t15, .int 0, .ref t17, .ref t18, .ref t19]))] sz) [(g, .inr (11, [.ref g0, .ref g1, .ref g2, .int 0, .ref g4, .ref g5, .ref g6, .ref g7, .ref g8, .ref g9, .ref g10, .ref g11, .ref g12])), (g1, .inr (10, [.int 0, .int 0, .int 0, .ref t3, .ref t4, .ref t5, .ref t6, .int 0, .int 0, .ref t9, .ref t10, .int 0, .ref t12, .ref t13, .ref t14, .ref t15, .int 0, .ref t17, .ref t18, .ref t19]))] tZ) (va_A [(g, .inr (11, [.ref g0, .ref g1, .ref g2, .int 0, .ref g4, .ref g5, .ref g6, .ref g7, .ref g8, .ref g9, .ref g10, .ref g11, .ref g12])), (g1, .inr (10, [.int 0, .int 0, .int 0, .ref t3, .ref t4, .ref t5, .ref t6, .int 0, .int 0, .ref t9, .ref t10, .int 0, .ref t12, .ref t13, .ref t14, .ref t15, .int 0, .ref t17, .ref t18, .ref t19]))] sz)) 0 0 (va_A [(g, .inr (11, [.ref g0, .ref g1, .ref g2, .int 0, .ref g4, .ref g5, .ref g6, .ref g7, .ref g8, .ref g9, .ref g10, .ref g11, .ref g12])), (g1, .inr (10, [.int 0, .int 0, .int 0, .ref t3, .ref t4, .ref t5, .ref t6, .int 0, .int 0, .ref t9, .ref t10, .int 0, .ref t12, .ref t13, .ref t14, .ref t15, .int 0, .ref t17, .ref t18, .ref t19]))] sz) := by
  refine Met.ofW (cc := cX11_best) (maxL := 2) (ret := (some .int)) (by decide +kernel) rfl ?_
  intro p e s m args below meth c s₁ B hml hv
  obtain ⟨rfl, hsz, hP, hK, hD0, hN⟩ := hv
  have hx := B.exec
  have hb := B.bytes
  have hr := B.returns
  have hts : ∀ w ∈ TT, w.before _ s = true := fun w h => atoms_spec (ws := ww yX11_best cX11_best 2 (some .int)) B.pre w (List.mem_cons_of_mem _ h)
  have hown : s.vm.findClass RX11 = some m.cls := findClass_of_methodNamed B.named
  have hlocks := B.notSynchronized
  subst hsz
  have hD := hD0.self (sz := s.heap.size)
  generalize hAe : va_A [(g, .inr (11, [.ref g0, .ref g1, .ref g2, .int 0, .ref g4, .ref g5, .ref g6, .ref g7, .ref g8, .ref g9, .ref g10, .ref g11, .ref g12])), (g1, .inr (10, [.int 0, .int 0, .int 0, .ref t3, .ref t4, .ref t5, .ref t6, .int 0, .int 0, .ref t9, .ref t10, .int 0, .ref t12, .ref t13, .ref t14, .ref t15, .int 0, .ref t17, .ref t18, .ref t19]))] s.heap.size = A at hD ⊢
  have hA : ∀ q : Nat, s.heap.size ≤ q → A q := fun q h => by rw [← hAe]; exact Or.inr h
  have hS : va_S A s.heap s.heap [] := va_S.rf
  have hl := lv_entry ([.ref g, .int p0]) (n := 2) (Nat.le_of_ble_eq_true rfl)
  rw [lg_entry_eq]
  generalize (lg_sl ([.ref g, .int p0]) ++ List.replicate (2 - (lg_sl ([.ref g, .int p0])).length) Slot.unset).toArray = ls at hl ⊢
  have hl : lv_has ls 2 [(0, .ref g), (1, .int p0)] := hl
  refine lv_aload_n hx hb dX11_best_0 rfl (lv_at hl 0 rfl) ?_
  have hPc := hP.sub (ws' := [(g, .inr (11, [.ref g0, .ref g1, .ref g2, .int 0, .ref g4, .ref g5, .ref g6, .ref g7, .ref g8, .ref g9, .ref g10, .ref g11, .ref g12])), (g1, .inr (10, [.int 0, .int 0, .int 0, .ref t3, .ref t4, .ref t5, .ref t6, .int 0, .int 0, .ref t9, .ref t10, .int 0, .ref t12, .ref t13, .ref t14, .ref t15, .int 0, .ref t17, .ref t18, .ref t19]))]) [0, 1] rfl
  have hDc := hD.sub (ws' := [(g, .inr (11, [.ref g0, .ref g1, .ref g2, .int 0, .ref g4, .ref g5, .ref g6, .ref g7, .ref g8, .ref g9, .ref g10, .ref g11, .ref g12])), (g1, .inr (10, [.int 0, .int 0, .int 0, .ref t3, .ref t4, .ref t5, .ref t6, .int 0, .int 0, .ref t9, .ref t10, .int 0, .ref t12, .ref t13, .ref t14, .ref t15, .int 0, .ref t17, .ref t18, .ref t19]))]) [0, 1] (by decide) rfl
  have hFc := va_free (wc := [(g, .inr (11, [.ref g0, .ref g1, .ref g2, .int 0, .ref g4, .ref g5, .ref g6, .ref g7, .ref g8, .ref g9, .ref g10, .ref g11, .ref g12])), (g1, .inr (10, [.int 0, .int 0, .int 0, .ref t3, .ref t4, .ref t5, .ref t6, .int 0, .int 0, .ref t9, .ref t10, .int 0, .ref t12, .ref t13, .ref t14, .ref t15, .int 0, .ref t17, .ref t18, .ref t19]))]) hD hS hA [0, 1] rfl
  refine va_calli (va_runV (C := RX11) (As := []) (rest := []) ⟨hx, hb, hml, hown, hts⟩ (c_X11_hasNoTown l D k g g0 g1 g2 g4 g5 g6 g7 g8 g9 g10 g11 g12 t3 t4 t5 t6 t9 t10 t12 t13 t14 t15 t17 t18 t19 s.heap.size) (cwV 0 hts (gV tw_3_235 tw_3_237 tw_p_23 tw_1_1 tw_3_238) rfl rfl rfl hdV_X11_hasNoTown ⟨Nat.le_of_ble_eq_true rfl, Nat.le_of_ble_eq_true rfl⟩) (cz_V hK hPc hDc hN (ci := 11) (q0 := 0) rfl rfl []) rfl rfl hl.1 rfl (lv_room (Nat.le_of_ble_eq_true rfl)) dX11_best_1 ⟨Nat.le_of_ble_eq_true rfl, Nat.le_of_ble_eq_true rfl⟩) hS (fun q _ h => hFc q h) hFc (fun r_1 uZ tZ H1 locs ht hvm hw hB hz1 hk1 hS => ?_)
  obtain ⟨hP1, hK1, hD1⟩ := hB
  rw [ht] at hP1
  obtain ⟨hP, hD⟩ := va_join (wr := []) (w1 := [(g, .inr (11, [.ref g0, .ref g1, .ref g2, .int 0, .ref g4, .ref g5, .ref g6, .ref g7, .ref g8, .ref g9, .ref g10, .ref g11, .ref g12])), (g1, .inr (10, [.int 0, .int 0, .int 0, .ref t3, .ref t4, .ref t5, .ref t6, .int 0, .int 0, .ref t9, .ref t10, .int 0, .ref t12, .ref t13, .ref t14, .ref t15, .int 0, .ref t17, .ref t18, .ref t19]))]) hP hD [0, 1] [] rfl rfl (by decide) (by decide) hk1 hFc hP1 hD1
  clear hK1 hP1 hD1 hPc hDc hFc
  clear hk1 hz1 ht hvm
  have hP : va_P D vwCl [(g, .inr (11, [.ref g0, .ref g1, .ref g2, .int 0, .ref g4, .ref g5, .ref g6, .ref g7, .ref g8, .ref g9, .ref g10, .ref g11, .ref g12])), (g1, .inr (10, [.int 0, .int 0, .int 0, .ref t3, .ref t4, .ref t5, .ref t6, .int 0, .int 0, .ref t9, .ref t10, .int 0, .ref t12, .ref t13, .ref t14, .ref t15, .int 0, .ref t17, .ref t18, .ref t19]))] H1 := hP
  have hD : va_D A [(g, .inr (11, [.ref g0, .ref g1, .ref g2, .int 0, .ref g4, .ref g5, .ref g6, .ref g7, .ref g8, .ref g9, .ref g10, .ref g11, .ref g12])), (g1, .inr (10, [.int 0, .int 0, .int 0, .ref t3, .ref t4, .ref t5, .ref t6, .int 0, .int 0, .ref t9, .ref t10, .int 0, .ref t12, .ref t13, .ref t14, .ref t15, .int 0, .ref t17, .ref t18, .ref t19]))] := hD
  generalize H1 = H at hP hS ⊢
  obtain rfl : r_1 = 1 := hw
  refine lv_if_ne (tgt := 14) hx hb dX11_best_4 (by decide) (fun _ => ?_) (fun c9 => absurd c9 (by decide))
  refine lv_bipush (v := (-2)) hx hb dX11_best_14 (by decide) ?_
  have hP9 := hP.sub (ws' := [(g, .inr (11, [.ref g0, .ref g1, .ref g2, .int 0, .ref g4, .ref g5, .ref g6, .ref g7, .ref g8, .ref g9, .ref g10, .ref g11, .ref g12])), (g1, .inr (10, [.int 0, .int 0, .int 0, .ref t3, .ref t4, .ref t5, .ref t6, .int 0, .int 0, .ref t9, .ref t10, .int 0, .ref t12, .ref t13, .ref t14, .ref t15, .int 0, .ref t17, .ref t18, .ref t19]))]) [0, 1] rfl
  have hD9 := hD.sub (ws' := [(g, .inr (11, [.ref g0, .ref g1, .ref g2, .int 0, .ref g4, .ref g5, .ref g6, .ref g7, .ref g8, .ref g9, .ref g10, .ref g11, .ref g12])), (g1, .inr (10, [.int 0, .int 0, .int 0, .ref t3, .ref t4, .ref t5, .ref t6, .int 0, .int 0, .ref t9, .ref t10, .int 0, .ref t12, .ref t13, .ref t14, .ref t15, .int 0, .ref t17, .ref t18, .ref t19]))]) [0, 1] (by decide) rfl
  exact W.iret (v := (-2)) hx hb hr (fun tZ ht hW => ⟨⟨(-2), (), rfl, rfl, by rw [ht]; exact hP9, va_K.moved hW.alike hK, hD9⟩, hS.F ht⟩) hS.2.2 dX11_best_16
set_option maxHeartbeats 4000000 in
set_option maxRecDepth 100000 in
theorem c_X11_bars (l : Launch) (D : va_G) (k : Nat → ClassId) (g : Nat) (g0 : Nat) (g1 : Nat) (g2 : Nat) (g4 : Nat) (g5 : Nat) (g6 : Nat) (g7 : Nat) (g8 : Nat) (g9 : Nat) (g10 : Nat) (g11 : Nat) (g12 : Nat) (t3 : Nat) (t4 : Nat) (t5 : Nat) (t6 : Nat) (t9 : Nat) (t10 : Nat) (t12 : Nat) (t13 : Nat) (t14 : Nat) (t15 : Nat) (t17 : Nat) (t18 : Nat) (t19 : Nat) (p0 : Int32) (sz : Nat) : Met l yX11_bars (ww yX11_bars cX11_bars 2 (some .int)) ({ frames := 1, cells := 0, slots := 0, locals := 20 }) (Pre0 D k [(g, .inr (11, [.ref g0, .ref g1, .ref g2, .int 0, .ref g4, .ref g5, .ref g6, .ref g7, .ref g8, .ref g9, .ref g10, .ref g11, .ref g12])), (g1, .inr (10, [.int 0, .int 0, .int 0, .ref t3, .ref t4, .ref t5, .ref t6, .int 0, .int 0, .ref t9, .ref t10, .int 0, .ref t12, .ref t13, .ref t14, .ref t15, .int 0, .ref t17, .ref t18, .ref t19]))] sz [.ref g, .int p0]) (va_Qi (fun (r : Int32) (_ : Unit) => r = (-2)) (fun (_ : Unit) tZ => Bw D k (va_A [(g, .inr (11, [.ref g0, .ref g1, .ref g2, .int 0, .ref g4, .ref g5, .ref g6, .ref g7, .ref g8, .ref g9, .ref g10, .ref g11, .ref g12])), (g1, .inr (10, [.int 0, .int 0, .int 0, .ref t3, .ref t4, .ref t5, .ref t6, .int 0, .int 0, .ref t9, .ref t10, .int 0, .ref t12, .ref t13, .ref t14, .ref t15, .int 0, .ref t17, .ref t18, .ref t19]))] sz) [(g, .inr (11, [.ref g0, .ref g1, .ref g2, .int 0, .ref g4, .ref g5, .ref g6, .ref g7, .ref g8, .ref g9, .ref g10, .ref g11, .ref g12])), (g1, .inr (10, [.int 0, .int 0, .int 0, .ref t3, .ref t4, .ref t5, .ref t6, .int 0, .int 0, .ref t9, .ref t10, .int 0, .ref t12, .ref t13, .ref t14, .ref t15, .int 0, .ref t17, .ref t18, .ref t19]))] tZ) (va_A [(g, .inr (11, [.ref g0, .ref g1, .ref g2, .int 0, .ref g4, .ref g5, .ref g6, .ref g7, .ref g8, .ref g9, .ref g10, .ref g11, .ref g12])), (g1, .inr (10, [.int 0, .int 0, .int 0, .ref t3, .ref t4, .ref t5, .ref t6, .int 0, .int 0, .ref t9, .ref t10, .int 0, .ref t12, .ref t13, .ref t14, .ref t15, .int 0, .ref t17, .ref t18, .ref t19]))] sz)) 0 0 (va_A [(g, .inr (11, [.ref g0, .ref g1, .ref g2, .int 0, .ref g4, .ref g5, .ref g6, .ref g7, .ref g8, .ref g9, .ref g10, .ref g11, .ref g12])), (g1, .inr (10, [.int 0, .int 0, .int 0, .ref t3, .ref t4, .ref t5, .ref t6, .int 0, .int 0, .ref t9, .ref t10, .int 0, .ref t12, .ref t13, .ref t14, .ref t15, .int 0, .ref t17, .ref t18, .ref t19]))] sz) := by
  refine Met.ofW (cc := cX11_bars) (maxL := 2) (ret := (some .int)) (by decide +kernel) rfl ?_
  intro p e s m args below meth c s₁ B hml hv
  obtain ⟨rfl, hsz, hP, hK, hD0, hN⟩ := hv
  have hx := B.exec
  have hb := B.bytes
  have hr := B.returns
  have hts : ∀ w ∈ TT, w.before _ s = true := fun w h => atoms_spec (ws := ww yX11_bars cX11_bars 2 (some .int)) B.pre w (List.mem_cons_of_mem _ h)
  have hown : s.vm.findClass RX11 = some m.cls := findClass_of_methodNamed B.named
  have hlocks := B.notSynchronized
  subst hsz
  have hD := hD0.self (sz := s.heap.size)
  generalize hAe : va_A [(g, .inr (11, [.ref g0, .ref g1, .ref g2, .int 0, .ref g4, .ref g5, .ref g6, .ref g7, .ref g8, .ref g9, .ref g10, .ref g11, .ref g12])), (g1, .inr (10, [.int 0, .int 0, .int 0, .ref t3, .ref t4, .ref t5, .ref t6, .int 0, .int 0, .ref t9, .ref t10, .int 0, .ref t12, .ref t13, .ref t14, .ref t15, .int 0, .ref t17, .ref t18, .ref t19]))] s.heap.size = A at hD ⊢
  have hA : ∀ q : Nat, s.heap.size ≤ q → A q := fun q h => by rw [← hAe]; exact Or.inr h
  have hS : va_S A s.heap s.heap [] := va_S.rf
  have hl := lv_entry ([.ref g, .int p0]) (n := 2) (Nat.le_of_ble_eq_true rfl)
  rw [lg_entry_eq]
  generalize (lg_sl ([.ref g, .int p0]) ++ List.replicate (2 - (lg_sl ([.ref g, .int p0])).length) Slot.unset).toArray = ls at hl ⊢
  have hl : lv_has ls 2 [(0, .ref g), (1, .int p0)] := hl
  refine lv_aload_n hx hb dX11_bars_0 rfl (lv_at hl 0 rfl) ?_
  have hPc := hP.sub (ws' := [(g, .inr (11, [.ref g0, .ref g1, .ref g2, .int 0, .ref g4, .ref g5, .ref g6, .ref g7, .ref g8, .ref g9, .ref g10, .ref g11, .ref g12])), (g1, .inr (10, [.int 0, .int 0, .int 0, .ref t3, .ref t4, .ref t5, .ref t6, .int 0, .int 0, .ref t9, .ref t10, .int 0, .ref t12, .ref t13, .ref t14, .ref t15, .int 0, .ref t17, .ref t18, .ref t19]))]) [0, 1] rfl
  have hDc := hD.sub (ws' := [(g, .inr (11, [.ref g0, .ref g1, .ref g2, .int 0, .ref g4, .ref g5, .ref g6, .ref g7, .ref g8, .ref g9, .ref g10, .ref g11, .ref g12])), (g1, .inr (10, [.int 0, .int 0, .int 0, .ref t3, .ref t4, .ref t5, .ref t6, .int 0, .int 0, .ref t9, .ref t10, .int 0, .ref t12, .ref t13, .ref t14, .ref t15, .int 0, .ref t17, .ref t18, .ref t19]))]) [0, 1] (by decide) rfl
  have hFc := va_free (wc := [(g, .inr (11, [.ref g0, .ref g1, .ref g2, .int 0, .ref g4, .ref g5, .ref g6, .ref g7, .ref g8, .ref g9, .ref g10, .ref g11, .ref g12])), (g1, .inr (10, [.int 0, .int 0, .int 0, .ref t3, .ref t4, .ref t5, .ref t6, .int 0, .int 0, .ref t9, .ref t10, .int 0, .ref t12, .ref t13, .ref t14, .ref t15, .int 0, .ref t17, .ref t18, .ref t19]))]) hD hS hA [0, 1] rfl
  refine va_calli (va_runV (C := RX11) (As := []) (rest := []) ⟨hx, hb, hml, hown, hts⟩ (c_X11_hasNoTown l D k g g0 g1 g2 g4 g5 g6 g7 g8 g9 g10 g11 g12 t3 t4 t5 t6 t9 t10 t12 t13 t14 t15 t17 t18 t19 s.heap.size) (cwV 0 hts (gV tw_3_235 tw_3_237 tw_p_23 tw_1_1 tw_3_238) rfl rfl rfl hdV_X11_hasNoTown ⟨Nat.le_of_ble_eq_true rfl, Nat.le_of_ble_eq_true rfl⟩) (cz_V hK hPc hDc hN (ci := 11) (q0 := 0) rfl rfl []) rfl rfl hl.1 rfl (lv_room (Nat.le_of_ble_eq_true rfl)) dX11_bars_1 ⟨Nat.le_of_ble_eq_true rfl, Nat.le_of_ble_eq_true rfl⟩) hS (fun q _ h => hFc q h) hFc (fun r_1 uZ tZ H1 locs ht hvm hw hB hz1 hk1 hS => ?_)
  obtain ⟨hP1, hK1, hD1⟩ := hB
  rw [ht] at hP1
  obtain ⟨hP, hD⟩ := va_join (wr := []) (w1 := [(g, .inr (11, [.ref g0, .ref g1, .ref g2, .int 0, .ref g4, .ref g5, .ref g6, .ref g7, .ref g8, .ref g9, .ref g10, .ref g11, .ref g12])), (g1, .inr (10, [.int 0, .int 0, .int 0, .ref t3, .ref t4, .ref t5, .ref t6, .int 0, .int 0, .ref t9, .ref t10, .int 0, .ref t12, .ref t13, .ref t14, .ref t15, .int 0, .ref t17, .ref t18, .ref t19]))]) hP hD [0, 1] [] rfl rfl (by decide) (by decide) hk1 hFc hP1 hD1
  clear hK1 hP1 hD1 hPc hDc hFc
  clear hk1 hz1 ht hvm
  have hP : va_P D vwCl [(g, .inr (11, [.ref g0, .ref g1, .ref g2, .int 0, .ref g4, .ref g5, .ref g6, .ref g7, .ref g8, .ref g9, .ref g10, .ref g11, .ref g12])), (g1, .inr (10, [.int 0, .int 0, .int 0, .ref t3, .ref t4, .ref t5, .ref t6, .int 0, .int 0, .ref t9, .ref t10, .int 0, .ref t12, .ref t13, .ref t14, .ref t15, .int 0, .ref t17, .ref t18, .ref t19]))] H1 := hP
  have hD : va_D A [(g, .inr (11, [.ref g0, .ref g1, .ref g2, .int 0, .ref g4, .ref g5, .ref g6, .ref g7, .ref g8, .ref g9, .ref g10, .ref g11, .ref g12])), (g1, .inr (10, [.int 0, .int 0, .int 0, .ref t3, .ref t4, .ref t5, .ref t6, .int 0, .int 0, .ref t9, .ref t10, .int 0, .ref t12, .ref t13, .ref t14, .ref t15, .int 0, .ref t17, .ref t18, .ref t19]))] := hD
  generalize H1 = H at hP hS ⊢
  obtain rfl : r_1 = 1 := hw
  refine lv_if_ne (tgt := 14) hx hb dX11_bars_4 (by decide) (fun _ => ?_) (fun c9 => absurd c9 (by decide))
  refine lv_bipush (v := (-2)) hx hb dX11_bars_14 (by decide) ?_
  have hP9 := hP.sub (ws' := [(g, .inr (11, [.ref g0, .ref g1, .ref g2, .int 0, .ref g4, .ref g5, .ref g6, .ref g7, .ref g8, .ref g9, .ref g10, .ref g11, .ref g12])), (g1, .inr (10, [.int 0, .int 0, .int 0, .ref t3, .ref t4, .ref t5, .ref t6, .int 0, .int 0, .ref t9, .ref t10, .int 0, .ref t12, .ref t13, .ref t14, .ref t15, .int 0, .ref t17, .ref t18, .ref t19]))]) [0, 1] rfl
  have hD9 := hD.sub (ws' := [(g, .inr (11, [.ref g0, .ref g1, .ref g2, .int 0, .ref g4, .ref g5, .ref g6, .ref g7, .ref g8, .ref g9, .ref g10, .ref g11, .ref g12])), (g1, .inr (10, [.int 0, .int 0, .int 0, .ref t3, .ref t4, .ref t5, .ref t6, .int 0, .int 0, .ref t9, .ref t10, .int 0, .ref t12, .ref t13, .ref t14, .ref t15, .int 0, .ref t17, .ref t18, .ref t19]))]) [0, 1] (by decide) rfl
  exact W.iret (v := (-2)) hx hb hr (fun tZ ht hW => ⟨⟨(-2), (), rfl, rfl, by rw [ht]; exact hP9, va_K.moved hW.alike hK, hD9⟩, hS.F ht⟩) hS.2.2 dX11_bars_16
set_option maxHeartbeats 4000000 in
set_option maxRecDepth 100000 in
theorem c_X11_opens (l : Launch) (D : va_G) (k : Nat → ClassId) (g : Nat) (g0 : Nat) (g1 : Nat) (g2 : Nat) (g4 : Nat) (g5 : Nat) (g6 : Nat) (g7 : Nat) (g8 : Nat) (g9 : Nat) (g10 : Nat) (g11 : Nat) (g12 : Nat) (t3 : Nat) (t4 : Nat) (t5 : Nat) (t6 : Nat) (t9 : Nat) (t10 : Nat) (t12 : Nat) (t13 : Nat) (t14 : Nat) (t15 : Nat) (t17 : Nat) (t18 : Nat) (t19 : Nat) (p0 : Int32) (sz : Nat) : Met l yX11_opens (ww yX11_opens cX11_opens 2 (some .int)) ({ frames := 1, cells := 0, slots := 0, locals := 20 }) (Pre0 D k [(g, .inr (11, [.ref g0, .ref g1, .ref g2, .int 0, .ref g4, .ref g5, .ref g6, .ref g7, .ref g8, .ref g9, .ref g10, .ref g11, .ref g12])), (g1, .inr (10, [.int 0, .int 0, .int 0, .ref t3, .ref t4, .ref t5, .ref t6, .int 0, .int 0, .ref t9, .ref t10, .int 0, .ref t12, .ref t13, .ref t14, .ref t15, .int 0, .ref t17, .ref t18, .ref t19]))] sz [.ref g, .int p0]) (va_Qi (fun (r : Int32) (_ : Unit) => r = (-2)) (fun (_ : Unit) tZ => Bw D k (va_A [(g, .inr (11, [.ref g0, .ref g1, .ref g2, .int 0, .ref g4, .ref g5, .ref g6, .ref g7, .ref g8, .ref g9, .ref g10, .ref g11, .ref g12])), (g1, .inr (10, [.int 0, .int 0, .int 0, .ref t3, .ref t4, .ref t5, .ref t6, .int 0, .int 0, .ref t9, .ref t10, .int 0, .ref t12, .ref t13, .ref t14, .ref t15, .int 0, .ref t17, .ref t18, .ref t19]))] sz) [(g, .inr (11, [.ref g0, .ref g1, .ref g2, .int 0, .ref g4, .ref g5, .ref g6, .ref g7, .ref g8, .ref g9, .ref g10, .ref g11, .ref g12])), (g1, .inr (10, [.int 0, .int 0, .int 0, .ref t3, .ref t4, .ref t5, .ref t6, .int 0, .int 0, .ref t9, .ref t10, .int 0, .ref t12, .ref t13, .ref t14, .ref t15, .int 0, .ref t17, .ref t18, .ref t19]))] tZ) (va_A [(g, .inr (11, [.ref g0, .ref g1, .ref g2, .int 0, .ref g4, .ref g5, .ref g6, .ref g7, .ref g8, .ref g9, .ref g10, .ref g11, .ref g12])), (g1, .inr (10, [.int 0, .int 0, .int 0, .ref t3, .ref t4, .ref t5, .ref t6, .int 0, .int 0, .ref t9, .ref t10, .int 0, .ref t12, .ref t13, .ref t14, .ref t15, .int 0, .ref t17, .ref t18, .ref t19]))] sz)) 0 0 (va_A [(g, .inr (11, [.ref g0, .ref g1, .ref g2, .int 0, .ref g4, .ref g5, .ref g6, .ref g7, .ref g8, .ref g9, .ref g10, .ref g11, .ref g12])), (g1, .inr (10, [.int 0, .int 0, .int 0, .ref t3, .ref t4, .ref t5, .ref t6, .int 0, .int 0, .ref t9, .ref t10, .int 0, .ref t12, .ref t13, .ref t14, .ref t15, .int 0, .ref t17, .ref t18, .ref t19]))] sz) := by
  refine Met.ofW (cc := cX11_opens) (maxL := 2) (ret := (some .int)) (by decide +kernel) rfl ?_
  intro p e s m args below meth c s₁ B hml hv
  obtain ⟨rfl, hsz, hP, hK, hD0, hN⟩ := hv
  have hx := B.exec
  have hb := B.bytes
  have hr := B.returns
  have hts : ∀ w ∈ TT, w.before _ s = true := fun w h => atoms_spec (ws := ww yX11_opens cX11_opens 2 (some .int)) B.pre w (List.mem_cons_of_mem _ h)
  have hown : s.vm.findClass RX11 = some m.cls := findClass_of_methodNamed B.named
  have hlocks := B.notSynchronized
  subst hsz
  have hD := hD0.self (sz := s.heap.size)
  generalize hAe : va_A [(g, .inr (11, [.ref g0, .ref g1, .ref g2, .int 0, .ref g4, .ref g5, .ref g6, .ref g7, .ref g8, .ref g9, .ref g10, .ref g11, .ref g12])), (g1, .inr (10, [.int 0, .int 0, .int 0, .ref t3, .ref t4, .ref t5, .ref t6, .int 0, .int 0, .ref t9, .ref t10, .int 0, .ref t12, .ref t13, .ref t14, .ref t15, .int 0, .ref t17, .ref t18, .ref t19]))] s.heap.size = A at hD ⊢
  have hA : ∀ q : Nat, s.heap.size ≤ q → A q := fun q h => by rw [← hAe]; exact Or.inr h
  have hS : va_S A s.heap s.heap [] := va_S.rf
  have hl := lv_entry ([.ref g, .int p0]) (n := 2) (Nat.le_of_ble_eq_true rfl)
  rw [lg_entry_eq]
  generalize (lg_sl ([.ref g, .int p0]) ++ List.replicate (2 - (lg_sl ([.ref g, .int p0])).length) Slot.unset).toArray = ls at hl ⊢
  have hl : lv_has ls 2 [(0, .ref g), (1, .int p0)] := hl
  refine lv_aload_n hx hb dX11_opens_0 rfl (lv_at hl 0 rfl) ?_
  have hPc := hP.sub (ws' := [(g, .inr (11, [.ref g0, .ref g1, .ref g2, .int 0, .ref g4, .ref g5, .ref g6, .ref g7, .ref g8, .ref g9, .ref g10, .ref g11, .ref g12])), (g1, .inr (10, [.int 0, .int 0, .int 0, .ref t3, .ref t4, .ref t5, .ref t6, .int 0, .int 0, .ref t9, .ref t10, .int 0, .ref t12, .ref t13, .ref t14, .ref t15, .int 0, .ref t17, .ref t18, .ref t19]))]) [0, 1] rfl
  have hDc := hD.sub (ws' := [(g, .inr (11, [.ref g0, .ref g1, .ref g2, .int 0, .ref g4, .ref g5, .ref g6, .ref g7, .ref g8, .ref g9, .ref g10, .ref g11, .ref g12])), (g1, .inr (10, [.int 0, .int 0, .int 0, .ref t3, .ref t4, .ref t5, .ref t6, .int 0, .int 0, .ref t9, .ref t10, .int 0, .ref t12, .ref t13, .ref t14, .ref t15, .int 0, .ref t17, .ref t18, .ref t19]))]) [0, 1] (by decide) rfl
  have hFc := va_free (wc := [(g, .inr (11, [.ref g0, .ref g1, .ref g2, .int 0, .ref g4, .ref g5, .ref g6, .ref g7, .ref g8, .ref g9, .ref g10, .ref g11, .ref g12])), (g1, .inr (10, [.int 0, .int 0, .int 0, .ref t3, .ref t4, .ref t5, .ref t6, .int 0, .int 0, .ref t9, .ref t10, .int 0, .ref t12, .ref t13, .ref t14, .ref t15, .int 0, .ref t17, .ref t18, .ref t19]))]) hD hS hA [0, 1] rfl
  refine va_calli (va_runV (C := RX11) (As := []) (rest := []) ⟨hx, hb, hml, hown, hts⟩ (c_X11_hasNoTown l D k g g0 g1 g2 g4 g5 g6 g7 g8 g9 g10 g11 g12 t3 t4 t5 t6 t9 t10 t12 t13 t14 t15 t17 t18 t19 s.heap.size) (cwV 0 hts (gV tw_3_235 tw_3_237 tw_p_23 tw_1_1 tw_3_238) rfl rfl rfl hdV_X11_hasNoTown ⟨Nat.le_of_ble_eq_true rfl, Nat.le_of_ble_eq_true rfl⟩) (cz_V hK hPc hDc hN (ci := 11) (q0 := 0) rfl rfl []) rfl rfl hl.1 rfl (lv_room (Nat.le_of_ble_eq_true rfl)) dX11_opens_1 ⟨Nat.le_of_ble_eq_true rfl, Nat.le_of_ble_eq_true rfl⟩) hS (fun q _ h => hFc q h) hFc (fun r_1 uZ tZ H1 locs ht hvm hw hB hz1 hk1 hS => ?_)
  obtain ⟨hP1, hK1, hD1⟩ := hB
  rw [ht] at hP1
  obtain ⟨hP, hD⟩ := va_join (wr := []) (w1 := [(g, .inr (11, [.ref g0, .ref g1, .ref g2, .int 0, .ref g4, .ref g5, .ref g6, .ref g7, .ref g8, .ref g9, .ref g10, .ref g11, .ref g12])), (g1, .inr (10, [.int 0, .int 0, .int 0, .ref t3, .ref t4, .ref t5, .ref t6, .int 0, .int 0, .ref t9, .ref t10, .int 0, .ref t12, .ref t13, .ref t14, .ref t15, .int 0, .ref t17, .ref t18, .ref t19]))]) hP hD [0, 1] [] rfl rfl (by decide) (by decide) hk1 hFc hP1 hD1
  clear hK1 hP1 hD1 hPc hDc hFc
  clear hk1 hz1 ht hvm
  have hP : va_P D vwCl [(g, .inr (11, [.ref g0, .ref g1, .ref g2, .int 0, .ref g4, .ref g5, .ref g6, .ref g7, .ref g8, .ref g9, .ref g10, .ref g11, .ref g12])), (g1, .inr (10, [.int 0, .int 0, .int 0, .ref t3, .ref t4, .ref t5, .ref t6, .int 0, .int 0, .ref t9, .ref t10, .int 0, .ref t12, .ref t13, .ref t14, .ref t15, .int 0, .ref t17, .ref t18, .ref t19]))] H1 := hP
  have hD : va_D A [(g, .inr (11, [.ref g0, .ref g1, .ref g2, .int 0, .ref g4, .ref g5, .ref g6, .ref g7, .ref g8, .ref g9, .ref g10, .ref g11, .ref g12])), (g1, .inr (10, [.int 0, .int 0, .int 0, .ref t3, .ref t4, .ref t5, .ref t6, .int 0, .int 0, .ref t9, .ref t10, .int 0, .ref t12, .ref t13, .ref t14, .ref t15, .int 0, .ref t17, .ref t18, .ref t19]))] := hD
  generalize H1 = H at hP hS ⊢
  obtain rfl : r_1 = 1 := hw
  refine lv_if_ne (tgt := 14) hx hb dX11_opens_4 (by decide) (fun _ => ?_) (fun c9 => absurd c9 (by decide))
  refine lv_bipush (v := (-2)) hx hb dX11_opens_14 (by decide) ?_
  have hP9 := hP.sub (ws' := [(g, .inr (11, [.ref g0, .ref g1, .ref g2, .int 0, .ref g4, .ref g5, .ref g6, .ref g7, .ref g8, .ref g9, .ref g10, .ref g11, .ref g12])), (g1, .inr (10, [.int 0, .int 0, .int 0, .ref t3, .ref t4, .ref t5, .ref t6, .int 0, .int 0, .ref t9, .ref t10, .int 0, .ref t12, .ref t13, .ref t14, .ref t15, .int 0, .ref t17, .ref t18, .ref t19]))]) [0, 1] rfl
  have hD9 := hD.sub (ws' := [(g, .inr (11, [.ref g0, .ref g1, .ref g2, .int 0, .ref g4, .ref g5, .ref g6, .ref g7, .ref g8, .ref g9, .ref g10, .ref g11, .ref g12])), (g1, .inr (10, [.int 0, .int 0, .int 0, .ref t3, .ref t4, .ref t5, .ref t6, .int 0, .int 0, .ref t9, .ref t10, .int 0, .ref t12, .ref t13, .ref t14, .ref t15, .int 0, .ref t17, .ref t18, .ref t19]))]) [0, 1] (by decide) rfl
  exact W.iret (v := (-2)) hx hb hr (fun tZ ht hW => ⟨⟨(-2), (), rfl, rfl, by rw [ht]; exact hP9, va_K.moved hW.alike hK, hD9⟩, hS.F ht⟩) hS.2.2 dX11_opens_16
set_option maxHeartbeats 4000000 in
set_option maxRecDepth 100000 in
theorem c_X11_cut (l : Launch) (D : va_G) (k : Nat → ClassId) (g : Nat) (g0 : Nat) (g1 : Nat) (g2 : Nat) (g4 : Nat) (g5 : Nat) (g6 : Nat) (g7 : Nat) (g8 : Nat) (g9 : Nat) (g10 : Nat) (g11 : Nat) (g12 : Nat) (t3 : Nat) (t4 : Nat) (t5 : Nat) (t6 : Nat) (t9 : Nat) (t10 : Nat) (t12 : Nat) (t13 : Nat) (t14 : Nat) (t15 : Nat) (t17 : Nat) (t18 : Nat) (t19 : Nat) (p0 : Int32) (p1 : Int32) (sz : Nat) : Met l yX11_cut (ww yX11_cut cX11_cut 4 (some .int)) ({ frames := 1, cells := 0, slots := 0, locals := 21 }) (Pre0 D k [(g, .inr (11, [.ref g0, .ref g1, .ref g2, .int 0, .ref g4, .ref g5, .ref g6, .ref g7, .ref g8, .ref g9, .ref g10, .ref g11, .ref g12])), (g1, .inr (10, [.int 0, .int 0, .int 0, .ref t3, .ref t4, .ref t5, .ref t6, .int 0, .int 0, .ref t9, .ref t10, .int 0, .ref t12, .ref t13, .ref t14, .ref t15, .int 0, .ref t17, .ref t18, .ref t19]))] sz [.ref g, .int p0, .int p1]) (va_Qi (fun (r : Int32) (_ : Unit) => r = (-2)) (fun (_ : Unit) tZ => Bw D k (va_A [(g, .inr (11, [.ref g0, .ref g1, .ref g2, .int 0, .ref g4, .ref g5, .ref g6, .ref g7, .ref g8, .ref g9, .ref g10, .ref g11, .ref g12])), (g1, .inr (10, [.int 0, .int 0, .int 0, .ref t3, .ref t4, .ref t5, .ref t6, .int 0, .int 0, .ref t9, .ref t10, .int 0, .ref t12, .ref t13, .ref t14, .ref t15, .int 0, .ref t17, .ref t18, .ref t19]))] sz) [(g, .inr (11, [.ref g0, .ref g1, .ref g2, .int 0, .ref g4, .ref g5, .ref g6, .ref g7, .ref g8, .ref g9, .ref g10, .ref g11, .ref g12])), (g1, .inr (10, [.int 0, .int 0, .int 0, .ref t3, .ref t4, .ref t5, .ref t6, .int 0, .int 0, .ref t9, .ref t10, .int 0, .ref t12, .ref t13, .ref t14, .ref t15, .int 0, .ref t17, .ref t18, .ref t19]))] tZ) (va_A [(g, .inr (11, [.ref g0, .ref g1, .ref g2, .int 0, .ref g4, .ref g5, .ref g6, .ref g7, .ref g8, .ref g9, .ref g10, .ref g11, .ref g12])), (g1, .inr (10, [.int 0, .int 0, .int 0, .ref t3, .ref t4, .ref t5, .ref t6, .int 0, .int 0, .ref t9, .ref t10, .int 0, .ref t12, .ref t13, .ref t14, .ref t15, .int 0, .ref t17, .ref t18, .ref t19]))] sz)) 0 0 (va_A [(g, .inr (11, [.ref g0, .ref g1, .ref g2, .int 0, .ref g4, .ref g5, .ref g6, .ref g7, .ref g8, .ref g9, .ref g10, .ref g11, .ref g12])), (g1, .inr (10, [.int 0, .int 0, .int 0, .ref t3, .ref t4, .ref t5, .ref t6, .int 0, .int 0, .ref t9, .ref t10, .int 0, .ref t12, .ref t13, .ref t14, .ref t15, .int 0, .ref t17, .ref t18, .ref t19]))] sz) := by
  refine Met.ofW (cc := cX11_cut) (maxL := 4) (ret := (some .int)) (by decide +kernel) rfl ?_
  intro p e s m args below meth c s₁ B hml hv
  obtain ⟨rfl, hsz, hP, hK, hD0, hN⟩ := hv
  have hx := B.exec
  have hb := B.bytes
  have hr := B.returns
  have hts : ∀ w ∈ TT, w.before _ s = true := fun w h => atoms_spec (ws := ww yX11_cut cX11_cut 4 (some .int)) B.pre w (List.mem_cons_of_mem _ h)
  have hown : s.vm.findClass RX11 = some m.cls := findClass_of_methodNamed B.named
  have hlocks := B.notSynchronized
  subst hsz
  have hD := hD0.self (sz := s.heap.size)
  generalize hAe : va_A [(g, .inr (11, [.ref g0, .ref g1, .ref g2, .int 0, .ref g4, .ref g5, .ref g6, .ref g7, .ref g8, .ref g9, .ref g10, .ref g11, .ref g12])), (g1, .inr (10, [.int 0, .int 0, .int 0, .ref t3, .ref t4, .ref t5, .ref t6, .int 0, .int 0, .ref t9, .ref t10, .int 0, .ref t12, .ref t13, .ref t14, .ref t15, .int 0, .ref t17, .ref t18, .ref t19]))] s.heap.size = A at hD ⊢
  have hA : ∀ q : Nat, s.heap.size ≤ q → A q := fun q h => by rw [← hAe]; exact Or.inr h
  have hS : va_S A s.heap s.heap [] := va_S.rf
  have hl := lv_entry ([.ref g, .int p0, .int p1]) (n := 4) (Nat.le_of_ble_eq_true rfl)
  rw [lg_entry_eq]
  generalize (lg_sl ([.ref g, .int p0, .int p1]) ++ List.replicate (4 - (lg_sl ([.ref g, .int p0, .int p1])).length) Slot.unset).toArray = ls at hl ⊢
  have hl : lv_has ls 4 [(0, .ref g), (1, .int p0), (2, .int p1)] := hl
  refine lv_aload_n hx hb dX11_cut_0 rfl (lv_at hl 0 rfl) ?_
  refine lv_iload_n hx hb dX11_cut_1 rfl (lv_at hl 1 rfl) ?_
  have hPc := hP.sub (ws' := [(g, .inr (11, [.ref g0, .ref g1, .ref g2, .int 0, .ref g4, .ref g5, .ref g6, .ref g7, .ref g8, .ref g9, .ref g10, .ref g11, .ref g12])), (g1, .inr (10, [.int 0, .int 0, .int 0, .ref t3, .ref t4, .ref t5, .ref t6, .int 0, .int 0, .ref t9, .ref t10, .int 0, .ref t12, .ref t13, .ref t14, .ref t15, .int 0, .ref t17, .ref t18, .ref t19]))]) [0, 1] rfl
  have hDc := hD.sub (ws' := [(g, .inr (11, [.ref g0, .ref g1, .ref g2, .int 0, .ref g4, .ref g5, .ref g6, .ref g7, .ref g8, .ref g9, .ref g10, .ref g11, .ref g12])), (g1, .inr (10, [.int 0, .int 0, .int 0, .ref t3, .ref t4, .ref t5, .ref t6, .int 0, .int 0, .ref t9, .ref t10, .int 0, .ref t12, .ref t13, .ref t14, .ref t15, .int 0, .ref t17, .ref t18, .ref t19]))]) [0, 1] (by decide) rfl
  have hFc := va_free (wc := [(g, .inr (11, [.ref g0, .ref g1, .ref g2, .int 0, .ref g4, .ref g5, .ref g6, .ref g7, .ref g8, .ref g9, .ref g10, .ref g11, .ref g12])), (g1, .inr (10, [.int 0, .int 0, .int 0, .ref t3, .ref t4, .ref t5, .ref t6, .int 0, .int 0, .ref t9, .ref t10, .int 0, .ref t12, .ref t13, .ref t14, .ref t15, .int 0, .ref t17, .ref t18, .ref t19]))]) hD hS hA [0, 1] rfl
  refine va_calli (va_runV (C := RX11) (As := [.int p0]) (rest := []) ⟨hx, hb, hml, hown, hts⟩ (c_X11_isStreet l D k g g0 g1 g2 g4 g5 g6 g7 g8 g9 g10 g11 g12 t3 t4 t5 t6 t9 t10 t12 t13 t14 t15 t17 t18 t19 p0 s.heap.size) (cwV 1 hts (gV tw_3_171 tw_3_173 tw_p_18 tw_1_1 tw_3_174) rfl rfl rfl hdV_X11_isStreet ⟨Nat.le_of_ble_eq_true rfl, Nat.le_of_ble_eq_true rfl⟩) (cz_V hK hPc hDc hN (ci := 11) (q0 := 0) rfl rfl [.int p0]) rfl rfl hl.1 rfl (lv_room (Nat.le_of_ble_eq_true rfl)) dX11_cut_2 ⟨Nat.le_of_ble_eq_true rfl, Nat.le_of_ble_eq_true rfl⟩) hS (fun q _ h => hFc q h) hFc (fun r_1 uZ tZ H1 locs ht hvm hw hB hz1 hk1 hS => ?_)
  obtain ⟨hP1, hK1, hD1⟩ := hB
  rw [ht] at hP1
  obtain ⟨hP, hD⟩ := va_join (wr := []) (w1 := [(g, .inr (11, [.ref g0, .ref g1, .ref g2, .int 0, .ref g4, .ref g5, .ref g6, .ref g7, .ref g8, .ref g9, .ref g10, .ref g11, .ref g12])), (g1, .inr (10, [.int 0, .int 0, .int 0, .ref t3, .ref t4, .ref t5, .ref t6, .int 0, .int 0, .ref t9, .ref t10, .int 0, .ref t12, .ref t13, .ref t14, .ref t15, .int 0, .ref t17, .ref t18, .ref t19]))]) hP hD [0, 1] [] rfl rfl (by decide) (by decide) hk1 hFc hP1 hD1
  clear hK1 hP1 hD1 hPc hDc hFc
  clear hk1 hz1 ht hvm
  have hP : va_P D vwCl [(g, .inr (11, [.ref g0, .ref g1, .ref g2, .int 0, .ref g4, .ref g5, .ref g6, .ref g7, .ref g8, .ref g9, .ref g10, .ref g11, .ref g12])), (g1, .inr (10, [.int 0, .int 0, .int 0, .ref t3, .ref t4, .ref t5, .ref t6, .int 0, .int 0, .ref t9, .ref t10, .int 0, .ref t12, .ref t13, .ref t14, .ref t15, .int 0, .ref t17, .ref t18, .ref t19]))] H1 := hP
  have hD : va_D A [(g, .inr (11, [.ref g0, .ref g1, .ref g2, .int 0, .ref g4, .ref g5, .ref g6, .ref g7, .ref g8, .ref g9, .ref g10, .ref g11, .ref g12])), (g1, .inr (10, [.int 0, .int 0, .int 0, .ref t3, .ref t4, .ref t5, .ref t6, .int 0, .int 0, .ref t9, .ref t10, .int 0, .ref t12, .ref t13, .ref t14, .ref t15, .int 0, .ref t17, .ref t18, .ref t19]))] := hD
  generalize H1 = H at hP hS ⊢
  obtain rfl : r_1 = 0 := hw
  refine lv_if_eq (tgt := 15) hx hb dX11_cut_5 (by decide) (fun _ => ?_) (fun c9 => absurd c9 (by decide))
  refine lv_bipush (v := (-2)) hx hb dX11_cut_15 (by decide) ?_
  have hP9 := hP.sub (ws' := [(g, .inr (11, [.ref g0, .ref g1, .ref g2, .int 0, .ref g4, .ref g5, .ref g6, .ref g7, .ref g8, .ref g9, .ref g10, .ref g11, .ref g12])), (g1, .inr (10, [.int 0, .int 0, .int 0, .ref t3, .ref t4, .ref t5, .ref t6, .int 0, .int 0, .ref t9, .ref t10, .int 0, .ref t12, .ref t13, .ref t14, .ref t15, .int 0, .ref t17, .ref t18, .ref t19]))]) [0, 1] rfl
  have hD9 := hD.sub (ws' := [(g, .inr (11, [.ref g0, .ref g1, .ref g2, .int 0, .ref g4, .ref g5, .ref g6, .ref g7, .ref g8, .ref g9, .ref g10, .ref g11, .ref g12])), (g1, .inr (10, [.int 0, .int 0, .int 0, .ref t3, .ref t4, .ref t5, .ref t6, .int 0, .int 0, .ref t9, .ref t10, .int 0, .ref t12, .ref t13, .ref t14, .ref t15, .int 0, .ref t17, .ref t18, .ref t19]))]) [0, 1] (by decide) rfl
  exact W.iret (v := (-2)) hx hb hr (fun tZ ht hW => ⟨⟨(-2), (), rfl, rfl, by rw [ht]; exact hP9, va_K.moved hW.alike hK, hD9⟩, hS.F ht⟩) hS.2.2 dX11_cut_17
set_option maxHeartbeats 4000000 in
set_option maxRecDepth 100000 in
theorem c_X11_cuts (l : Launch) (D : va_G) (k : Nat → ClassId) (g : Nat) (g0 : Nat) (g1 : Nat) (g2 : Nat) (g4 : Nat) (g5 : Nat) (g6 : Nat) (g7 : Nat) (g8 : Nat) (g9 : Nat) (g10 : Nat) (g11 : Nat) (g12 : Nat) (t3 : Nat) (t4 : Nat) (t5 : Nat) (t6 : Nat) (t9 : Nat) (t10 : Nat) (t12 : Nat) (t13 : Nat) (t14 : Nat) (t15 : Nat) (t17 : Nat) (t18 : Nat) (t19 : Nat) (p0 : Int32) (p1 : Int32) (sz : Nat) : Met l yX11_cuts (ww yX11_cuts cX11_cuts 3 (some .int)) ({ frames := 1, cells := 0, slots := 0, locals := 21 }) (Pre0 D k [(g, .inr (11, [.ref g0, .ref g1, .ref g2, .int 0, .ref g4, .ref g5, .ref g6, .ref g7, .ref g8, .ref g9, .ref g10, .ref g11, .ref g12])), (g1, .inr (10, [.int 0, .int 0, .int 0, .ref t3, .ref t4, .ref t5, .ref t6, .int 0, .int 0, .ref t9, .ref t10, .int 0, .ref t12, .ref t13, .ref t14, .ref t15, .int 0, .ref t17, .ref t18, .ref t19]))] sz [.ref g, .int p0, .int p1]) (va_Qi (fun (r : Int32) (_ : Unit) => r = (-2)) (fun (_ : Unit) tZ => Bw D k (va_A [(g, .inr (11, [.ref g0, .ref g1, .ref g2, .int 0, .ref g4, .ref g5, .ref g6, .ref g7, .ref g8, .ref g9, .ref g10, .ref g11, .ref g12])), (g1, .inr (10, [.int 0, .int 0, .int 0, .ref t3, .ref t4, .ref t5, .ref t6, .int 0, .int 0, .ref t9, .ref t10, .int 0, .ref t12, .ref t13, .ref t14, .ref t15, .int 0, .ref t17, .ref t18, .ref t19]))] sz) [(g, .inr (11, [.ref g0, .ref g1, .ref g2, .int 0, .ref g4, .ref g5, .ref g6, .ref g7, .ref g8, .ref g9, .ref g10, .ref g11, .ref g12])), (g1, .inr (10, [.int 0, .int 0, .int 0, .ref t3, .ref t4, .ref t5, .ref t6, .int 0, .int 0, .ref t9, .ref t10, .int 0, .ref t12, .ref t13, .ref t14, .ref t15, .int 0, .ref t17, .ref t18, .ref t19]))] tZ) (va_A [(g, .inr (11, [.ref g0, .ref g1, .ref g2, .int 0, .ref g4, .ref g5, .ref g6, .ref g7, .ref g8, .ref g9, .ref g10, .ref g11, .ref g12])), (g1, .inr (10, [.int 0, .int 0, .int 0, .ref t3, .ref t4, .ref t5, .ref t6, .int 0, .int 0, .ref t9, .ref t10, .int 0, .ref t12, .ref t13, .ref t14, .ref t15, .int 0, .ref t17, .ref t18, .ref t19]))] sz)) 0 0 (va_A [(g, .inr (11, [.ref g0, .ref g1, .ref g2, .int 0, .ref g4, .ref g5, .ref g6, .ref g7, .ref g8, .ref g9, .ref g10, .ref g11, .ref g12])), (g1, .inr (10, [.int 0, .int 0, .int 0, .ref t3, .ref t4, .ref t5, .ref t6, .int 0, .int 0, .ref t9, .ref t10, .int 0, .ref t12, .ref t13, .ref t14, .ref t15, .int 0, .ref t17, .ref t18, .ref t19]))] sz) := by
  refine Met.ofW (cc := cX11_cuts) (maxL := 3) (ret := (some .int)) (by decide +kernel) rfl ?_
  intro p e s m args below meth c s₁ B hml hv
  obtain ⟨rfl, hsz, hP, hK, hD0, hN⟩ := hv
  have hx := B.exec
  have hb := B.bytes
  have hr := B.returns
  have hts : ∀ w ∈ TT, w.before _ s = true := fun w h => atoms_spec (ws := ww yX11_cuts cX11_cuts 3 (some .int)) B.pre w (List.mem_cons_of_mem _ h)
  have hown : s.vm.findClass RX11 = some m.cls := findClass_of_methodNamed B.named
  have hlocks := B.notSynchronized
  subst hsz
  have hD := hD0.self (sz := s.heap.size)
  generalize hAe : va_A [(g, .inr (11, [.ref g0, .ref g1, .ref g2, .int 0, .ref g4, .ref g5, .ref g6, .ref g7, .ref g8, .ref g9, .ref g10, .ref g11, .ref g12])), (g1, .inr (10, [.int 0, .int 0, .int 0, .ref t3, .ref t4, .ref t5, .ref t6, .int 0, .int 0, .ref t9, .ref t10, .int 0, .ref t12, .ref t13, .ref t14, .ref t15, .int 0, .ref t17, .ref t18, .ref t19]))] s.heap.size = A at hD ⊢
  have hA : ∀ q : Nat, s.heap.size ≤ q → A q := fun q h => by rw [← hAe]; exact Or.inr h
  have hS : va_S A s.heap s.heap [] := va_S.rf
  have hl := lv_entry ([.ref g, .int p0, .int p1]) (n := 3) (Nat.le_of_ble_eq_true rfl)
  rw [lg_entry_eq]
  generalize (lg_sl ([.ref g, .int p0, .int p1]) ++ List.replicate (3 - (lg_sl ([.ref g, .int p0, .int p1])).length) Slot.unset).toArray = ls at hl ⊢
  have hl : lv_has ls 3 [(0, .ref g), (1, .int p0), (2, .int p1)] := hl
  refine lv_aload_n hx hb dX11_cuts_0 rfl (lv_at hl 0 rfl) ?_
  refine lv_iload_n hx hb dX11_cuts_1 rfl (lv_at hl 1 rfl) ?_
  have hPc := hP.sub (ws' := [(g, .inr (11, [.ref g0, .ref g1, .ref g2, .int 0, .ref g4, .ref g5, .ref g6, .ref g7, .ref g8, .ref g9, .ref g10, .ref g11, .ref g12])), (g1, .inr (10, [.int 0, .int 0, .int 0, .ref t3, .ref t4, .ref t5, .ref t6, .int 0, .int 0, .ref t9, .ref t10, .int 0, .ref t12, .ref t13, .ref t14, .ref t15, .int 0, .ref t17, .ref t18, .ref t19]))]) [0, 1] rfl
  have hDc := hD.sub (ws' := [(g, .inr (11, [.ref g0, .ref g1, .ref g2, .int 0, .ref g4, .ref g5, .ref g6, .ref g7, .ref g8, .ref g9, .ref g10, .ref g11, .ref g12])), (g1, .inr (10, [.int 0, .int 0, .int 0, .ref t3, .ref t4, .ref t5, .ref t6, .int 0, .int 0, .ref t9, .ref t10, .int 0, .ref t12, .ref t13, .ref t14, .ref t15, .int 0, .ref t17, .ref t18, .ref t19]))]) [0, 1] (by decide) rfl
  have hFc := va_free (wc := [(g, .inr (11, [.ref g0, .ref g1, .ref g2, .int 0, .ref g4, .ref g5, .ref g6, .ref g7, .ref g8, .ref g9, .ref g10, .ref g11, .ref g12])), (g1, .inr (10, [.int 0, .int 0, .int 0, .ref t3, .ref t4, .ref t5, .ref t6, .int 0, .int 0, .ref t9, .ref t10, .int 0, .ref t12, .ref t13, .ref t14, .ref t15, .int 0, .ref t17, .ref t18, .ref t19]))]) hD hS hA [0, 1] rfl
  refine va_calli (va_runV (C := RX11) (As := [.int p0]) (rest := []) ⟨hx, hb, hml, hown, hts⟩ (c_X11_isStreet l D k g g0 g1 g2 g4 g5 g6 g7 g8 g9 g10 g11 g12 t3 t4 t5 t6 t9 t10 t12 t13 t14 t15 t17 t18 t19 p0 s.heap.size) (cwV 1 hts (gV tw_3_171 tw_3_173 tw_p_18 tw_1_1 tw_3_174) rfl rfl rfl hdV_X11_isStreet ⟨Nat.le_of_ble_eq_true rfl, Nat.le_of_ble_eq_true rfl⟩) (cz_V hK hPc hDc hN (ci := 11) (q0 := 0) rfl rfl [.int p0]) rfl rfl hl.1 rfl (lv_room (Nat.le_of_ble_eq_true rfl)) dX11_cuts_2 ⟨Nat.le_of_ble_eq_true rfl, Nat.le_of_ble_eq_true rfl⟩) hS (fun q _ h => hFc q h) hFc (fun r_1 uZ tZ H1 locs ht hvm hw hB hz1 hk1 hS => ?_)
  obtain ⟨hP1, hK1, hD1⟩ := hB
  rw [ht] at hP1
  obtain ⟨hP, hD⟩ := va_join (wr := []) (w1 := [(g, .inr (11, [.ref g0, .ref g1, .ref g2, .int 0, .ref g4, .ref g5, .ref g6, .ref g7, .ref g8, .ref g9, .ref g10, .ref g11, .ref g12])), (g1, .inr (10, [.int 0, .int 0, .int 0, .ref t3, .ref t4, .ref t5, .ref t6, .int 0, .int 0, .ref t9, .ref t10, .int 0, .ref t12, .ref t13, .ref t14, .ref t15, .int 0, .ref t17, .ref t18, .ref t19]))]) hP hD [0, 1] [] rfl rfl (by decide) (by decide) hk1 hFc hP1 hD1
  clear hK1 hP1 hD1 hPc hDc hFc
  clear hk1 hz1 ht hvm
  have hP : va_P D vwCl [(g, .inr (11, [.ref g0, .ref g1, .ref g2, .int 0, .ref g4, .ref g5, .ref g6, .ref g7, .ref g8, .ref g9, .ref g10, .ref g11, .ref g12])), (g1, .inr (10, [.int 0, .int 0, .int 0, .ref t3, .ref t4, .ref t5, .ref t6, .int 0, .int 0, .ref t9, .ref t10, .int 0, .ref t12, .ref t13, .ref t14, .ref t15, .int 0, .ref t17, .ref t18, .ref t19]))] H1 := hP
  have hD : va_D A [(g, .inr (11, [.ref g0, .ref g1, .ref g2, .int 0, .ref g4, .ref g5, .ref g6, .ref g7, .ref g8, .ref g9, .ref g10, .ref g11, .ref g12])), (g1, .inr (10, [.int 0, .int 0, .int 0, .ref t3, .ref t4, .ref t5, .ref t6, .int 0, .int 0, .ref t9, .ref t10, .int 0, .ref t12, .ref t13, .ref t14, .ref t15, .int 0, .ref t17, .ref t18, .ref t19]))] := hD
  generalize H1 = H at hP hS ⊢
  obtain rfl : r_1 = 0 := hw
  refine lv_if_eq (tgt := 15) hx hb dX11_cuts_5 (by decide) (fun _ => ?_) (fun c9 => absurd c9 (by decide))
  refine lv_bipush (v := (-2)) hx hb dX11_cuts_15 (by decide) ?_
  have hP9 := hP.sub (ws' := [(g, .inr (11, [.ref g0, .ref g1, .ref g2, .int 0, .ref g4, .ref g5, .ref g6, .ref g7, .ref g8, .ref g9, .ref g10, .ref g11, .ref g12])), (g1, .inr (10, [.int 0, .int 0, .int 0, .ref t3, .ref t4, .ref t5, .ref t6, .int 0, .int 0, .ref t9, .ref t10, .int 0, .ref t12, .ref t13, .ref t14, .ref t15, .int 0, .ref t17, .ref t18, .ref t19]))]) [0, 1] rfl
  have hD9 := hD.sub (ws' := [(g, .inr (11, [.ref g0, .ref g1, .ref g2, .int 0, .ref g4, .ref g5, .ref g6, .ref g7, .ref g8, .ref g9, .ref g10, .ref g11, .ref g12])), (g1, .inr (10, [.int 0, .int 0, .int 0, .ref t3, .ref t4, .ref t5, .ref t6, .int 0, .int 0, .ref t9, .ref t10, .int 0, .ref t12, .ref t13, .ref t14, .ref t15, .int 0, .ref t17, .ref t18, .ref t19]))]) [0, 1] (by decide) rfl
  exact W.iret (v := (-2)) hx hb hr (fun tZ ht hW => ⟨⟨(-2), (), rfl, rfl, by rw [ht]; exact hP9, va_K.moved hW.alike hK, hD9⟩, hS.F ht⟩) hS.2.2 dX11_cuts_17
set_option maxHeartbeats 4000000 in
set_option maxRecDepth 100000 in
theorem c_X11_hold (l : Launch) (D : va_G) (k : Nat → ClassId) (g : Nat) (g0 : Nat) (g1 : Nat) (g2 : Nat) (g4 : Nat) (g5 : Nat) (g6 : Nat) (g7 : Nat) (g8 : Nat) (g9 : Nat) (g10 : Nat) (g11 : Nat) (g12 : Nat) (t3 : Nat) (t4 : Nat) (t5 : Nat) (t6 : Nat) (t9 : Nat) (t10 : Nat) (t12 : Nat) (t13 : Nat) (t14 : Nat) (t15 : Nat) (t17 : Nat) (t18 : Nat) (t19 : Nat) (p0 : Int32) (p1 : Int32) (p2 : Int32) (sz : Nat) : Met l yX11_hold (ww yX11_hold cX11_hold 5 (some .int)) ({ frames := 1, cells := 0, slots := 0, locals := 21 }) (Pre0 D k [(g, .inr (11, [.ref g0, .ref g1, .ref g2, .int 0, .ref g4, .ref g5, .ref g6, .ref g7, .ref g8, .ref g9, .ref g10, .ref g11, .ref g12])), (g1, .inr (10, [.int 0, .int 0, .int 0, .ref t3, .ref t4, .ref t5, .ref t6, .int 0, .int 0, .ref t9, .ref t10, .int 0, .ref t12, .ref t13, .ref t14, .ref t15, .int 0, .ref t17, .ref t18, .ref t19]))] sz [.ref g, .int p0, .int p1, .int p2]) (va_Qi (fun (r : Int32) (_ : Unit) => r = (-2)) (fun (_ : Unit) tZ => Bw D k (va_A [(g, .inr (11, [.ref g0, .ref g1, .ref g2, .int 0, .ref g4, .ref g5, .ref g6, .ref g7, .ref g8, .ref g9, .ref g10, .ref g11, .ref g12])), (g1, .inr (10, [.int 0, .int 0, .int 0, .ref t3, .ref t4, .ref t5, .ref t6, .int 0, .int 0, .ref t9, .ref t10, .int 0, .ref t12, .ref t13, .ref t14, .ref t15, .int 0, .ref t17, .ref t18, .ref t19]))] sz) [(g, .inr (11, [.ref g0, .ref g1, .ref g2, .int 0, .ref g4, .ref g5, .ref g6, .ref g7, .ref g8, .ref g9, .ref g10, .ref g11, .ref g12])), (g1, .inr (10, [.int 0, .int 0, .int 0, .ref t3, .ref t4, .ref t5, .ref t6, .int 0, .int 0, .ref t9, .ref t10, .int 0, .ref t12, .ref t13, .ref t14, .ref t15, .int 0, .ref t17, .ref t18, .ref t19]))] tZ) (va_A [(g, .inr (11, [.ref g0, .ref g1, .ref g2, .int 0, .ref g4, .ref g5, .ref g6, .ref g7, .ref g8, .ref g9, .ref g10, .ref g11, .ref g12])), (g1, .inr (10, [.int 0, .int 0, .int 0, .ref t3, .ref t4, .ref t5, .ref t6, .int 0, .int 0, .ref t9, .ref t10, .int 0, .ref t12, .ref t13, .ref t14, .ref t15, .int 0, .ref t17, .ref t18, .ref t19]))] sz)) 0 0 (va_A [(g, .inr (11, [.ref g0, .ref g1, .ref g2, .int 0, .ref g4, .ref g5, .ref g6, .ref g7, .ref g8, .ref g9, .ref g10, .ref g11, .ref g12])), (g1, .inr (10, [.int 0, .int 0, .int 0, .ref t3, .ref t4, .ref t5, .ref t6, .int 0, .int 0, .ref t9, .ref t10, .int 0, .ref t12, .ref t13, .ref t14, .ref t15, .int 0, .ref t17, .ref t18, .ref t19]))] sz) := by
  refine Met.ofW (cc := cX11_hold) (maxL := 5) (ret := (some .int)) (by decide +kernel) rfl ?_
  intro p e s m args below meth c s₁ B hml hv
  obtain ⟨rfl, hsz, hP, hK, hD0, hN⟩ := hv
  have hx := B.exec
  have hb := B.bytes
  have hr := B.returns
  have hts : ∀ w ∈ TT, w.before _ s = true := fun w h => atoms_spec (ws := ww yX11_hold cX11_hold 5 (some .int)) B.pre w (List.mem_cons_of_mem _ h)
  have hown : s.vm.findClass RX11 = some m.cls := findClass_of_methodNamed B.named
  have hlocks := B.notSynchronized
  subst hsz
  have hD := hD0.self (sz := s.heap.size)
  generalize hAe : va_A [(g, .inr (11, [.ref g0, .ref g1, .ref g2, .int 0, .ref g4, .ref g5, .ref g6, .ref g7, .ref g8, .ref g9, .ref g10, .ref g11, .ref g12])), (g1, .inr (10, [.int 0, .int 0, .int 0, .ref t3, .ref t4, .ref t5, .ref t6, .int 0, .int 0, .ref t9, .ref t10, .int 0, .ref t12, .ref t13, .ref t14, .ref t15, .int 0, .ref t17, .ref t18, .ref t19]))] s.heap.size = A at hD ⊢
  have hA : ∀ q : Nat, s.heap.size ≤ q → A q := fun q h => by rw [← hAe]; exact Or.inr h
  have hS : va_S A s.heap s.heap [] := va_S.rf
  have hl := lv_entry ([.ref g, .int p0, .int p1, .int p2]) (n := 5) (Nat.le_of_ble_eq_true rfl)
  rw [lg_entry_eq]
  generalize (lg_sl ([.ref g, .int p0, .int p1, .int p2]) ++ List.replicate (5 - (lg_sl ([.ref g, .int p0, .int p1, .int p2])).length) Slot.unset).toArray = ls at hl ⊢
  have hl : lv_has ls 5 [(0, .ref g), (1, .int p0), (2, .int p1), (3, .int p2)] := hl
  refine lv_aload_n hx hb dX11_hold_0 rfl (lv_at hl 0 rfl) ?_
  refine lv_iload_n hx hb dX11_hold_1 rfl (lv_at hl 1 rfl) ?_
  have hPc := hP.sub (ws' := [(g, .inr (11, [.ref g0, .ref g1, .ref g2, .int 0, .ref g4, .ref g5, .ref g6, .ref g7, .ref g8, .ref g9, .ref g10, .ref g11, .ref g12])), (g1, .inr (10, [.int 0, .int 0, .int 0, .ref t3, .ref t4, .ref t5, .ref t6, .int 0, .int 0, .ref t9, .ref t10, .int 0, .ref t12, .ref t13, .ref t14, .ref t15, .int 0, .ref t17, .ref t18, .ref t19]))]) [0, 1] rfl
  have hDc := hD.sub (ws' := [(g, .inr (11, [.ref g0, .ref g1, .ref g2, .int 0, .ref g4, .ref g5, .ref g6, .ref g7, .ref g8, .ref g9, .ref g10, .ref g11, .ref g12])), (g1, .inr (10, [.int 0, .int 0, .int 0, .ref t3, .ref t4, .ref t5, .ref t6, .int 0, .int 0, .ref t9, .ref t10, .int 0, .ref t12, .ref t13, .ref t14, .ref t15, .int 0, .ref t17, .ref t18, .ref t19]))]) [0, 1] (by decide) rfl
  have hFc := va_free (wc := [(g, .inr (11, [.ref g0, .ref g1, .ref g2, .int 0, .ref g4, .ref g5, .ref g6, .ref g7, .ref g8, .ref g9, .ref g10, .ref g11, .ref g12])), (g1, .inr (10, [.int 0, .int 0, .int 0, .ref t3, .ref t4, .ref t5, .ref t6, .int 0, .int 0, .ref t9, .ref t10, .int 0, .ref t12, .ref t13, .ref t14, .ref t15, .int 0, .ref t17, .ref t18, .ref t19]))]) hD hS hA [0, 1] rfl
  refine va_calli (va_runV (C := RX11) (As := [.int p0]) (rest := []) ⟨hx, hb, hml, hown, hts⟩ (c_X11_isGate l D k g g0 g1 g2 g4 g5 g6 g7 g8 g9 g10 g11 g12 t3 t4 t5 t6 t9 t10 t12 t13 t14 t15 t17 t18 t19 p0 s.heap.size) (cwV 1 hts (gV tw_3_155 tw_3_157 tw_p_16 tw_1_1 tw_3_158) rfl rfl rfl hdV_X11_isGate ⟨Nat.le_of_ble_eq_true rfl, Nat.le_of_ble_eq_true rfl⟩) (cz_V hK hPc hDc hN (ci := 11) (q0 := 0) rfl rfl [.int p0]) rfl rfl hl.1 rfl (lv_room (Nat.le_of_ble_eq_true rfl)) dX11_hold_2 ⟨Nat.le_of_ble_eq_true rfl, Nat.le_of_ble_eq_true rfl⟩) hS (fun q _ h => hFc q h) hFc (fun r_1 uZ tZ H1 locs ht hvm hw hB hz1 hk1 hS => ?_)
  obtain ⟨hP1, hK1, hD1⟩ := hB
  rw [ht] at hP1
  obtain ⟨hP, hD⟩ := va_join (wr := []) (w1 := [(g, .inr (11, [.ref g0, .ref g1, .ref g2, .int 0, .ref g4, .ref g5, .ref g6, .ref g7, .ref g8, .ref g9, .ref g10, .ref g11, .ref g12])), (g1, .inr (10, [.int 0, .int 0, .int 0, .ref t3, .ref t4, .ref t5, .ref t6, .int 0, .int 0, .ref t9, .ref t10, .int 0, .ref t12, .ref t13, .ref t14, .ref t15, .int 0, .ref t17, .ref t18, .ref t19]))]) hP hD [0, 1] [] rfl rfl (by decide) (by decide) hk1 hFc hP1 hD1
  clear hK1 hP1 hD1 hPc hDc hFc
  clear hk1 hz1 ht hvm
  have hP : va_P D vwCl [(g, .inr (11, [.ref g0, .ref g1, .ref g2, .int 0, .ref g4, .ref g5, .ref g6, .ref g7, .ref g8, .ref g9, .ref g10, .ref g11, .ref g12])), (g1, .inr (10, [.int 0, .int 0, .int 0, .ref t3, .ref t4, .ref t5, .ref t6, .int 0, .int 0, .ref t9, .ref t10, .int 0, .ref t12, .ref t13, .ref t14, .ref t15, .int 0, .ref t17, .ref t18, .ref t19]))] H1 := hP
  have hD : va_D A [(g, .inr (11, [.ref g0, .ref g1, .ref g2, .int 0, .ref g4, .ref g5, .ref g6, .ref g7, .ref g8, .ref g9, .ref g10, .ref g11, .ref g12])), (g1, .inr (10, [.int 0, .int 0, .int 0, .ref t3, .ref t4, .ref t5, .ref t6, .int 0, .int 0, .ref t9, .ref t10, .int 0, .ref t12, .ref t13, .ref t14, .ref t15, .int 0, .ref t17, .ref t18, .ref t19]))] := hD
  generalize H1 = H at hP hS ⊢
  obtain rfl : r_1 = 0 := hw
  refine lv_if_eq (tgt := 23) hx hb dX11_hold_5 (by decide) (fun _ => ?_) (fun c9 => absurd c9 (by decide))
  refine lv_bipush (v := (-2)) hx hb dX11_hold_23 (by decide) ?_
  have hP9 := hP.sub (ws' := [(g, .inr (11, [.ref g0, .ref g1, .ref g2, .int 0, .ref g4, .ref g5, .ref g6, .ref g7, .ref g8, .ref g9, .ref g10, .ref g11, .ref g12])), (g1, .inr (10, [.int 0, .int 0, .int 0, .ref t3, .ref t4, .ref t5, .ref t6, .int 0, .int 0, .ref t9, .ref t10, .int 0, .ref t12, .ref t13, .ref t14, .ref t15, .int 0, .ref t17, .ref t18, .ref t19]))]) [0, 1] rfl
  have hD9 := hD.sub (ws' := [(g, .inr (11, [.ref g0, .ref g1, .ref g2, .int 0, .ref g4, .ref g5, .ref g6, .ref g7, .ref g8, .ref g9, .ref g10, .ref g11, .ref g12])), (g1, .inr (10, [.int 0, .int 0, .int 0, .ref t3, .ref t4, .ref t5, .ref t6, .int 0, .int 0, .ref t9, .ref t10, .int 0, .ref t12, .ref t13, .ref t14, .ref t15, .int 0, .ref t17, .ref t18, .ref t19]))]) [0, 1] (by decide) rfl
  exact W.iret (v := (-2)) hx hb hr (fun tZ ht hW => ⟨⟨(-2), (), rfl, rfl, by rw [ht]; exact hP9, va_K.moved hW.alike hK, hD9⟩, hS.F ht⟩) hS.2.2 dX11_hold_25
set_option maxHeartbeats 4000000 in
set_option maxRecDepth 100000 in
theorem c_X11_asks (l : Launch) (D : va_G) (k : Nat → ClassId) (g : Nat) (g0 : Nat) (g1 : Nat) (g2 : Nat) (g4 : Nat) (g5 : Nat) (g6 : Nat) (g7 : Nat) (g8 : Nat) (g9 : Nat) (g10 : Nat) (g11 : Nat) (g12 : Nat) (t3 : Nat) (t4 : Nat) (t5 : Nat) (t6 : Nat) (t9 : Nat) (t10 : Nat) (t12 : Nat) (t13 : Nat) (t14 : Nat) (t15 : Nat) (t17 : Nat) (t18 : Nat) (t19 : Nat) (p0 : Int32) (sz : Nat) : Met l yX11_asks (ww yX11_asks cX11_asks 2 (some .int)) ({ frames := 1, cells := 0, slots := 0, locals := 21 }) (Pre0 D k [(g, .inr (11, [.ref g0, .ref g1, .ref g2, .int 0, .ref g4, .ref g5, .ref g6, .ref g7, .ref g8, .ref g9, .ref g10, .ref g11, .ref g12])), (g1, .inr (10, [.int 0, .int 0, .int 0, .ref t3, .ref t4, .ref t5, .ref t6, .int 0, .int 0, .ref t9, .ref t10, .int 0, .ref t12, .ref t13, .ref t14, .ref t15, .int 0, .ref t17, .ref t18, .ref t19]))] sz [.ref g, .int p0]) (va_Qi (fun (r : Int32) (_ : Unit) => r = (-2)) (fun (_ : Unit) tZ => Bw D k (va_A [(g, .inr (11, [.ref g0, .ref g1, .ref g2, .int 0, .ref g4, .ref g5, .ref g6, .ref g7, .ref g8, .ref g9, .ref g10, .ref g11, .ref g12])), (g1, .inr (10, [.int 0, .int 0, .int 0, .ref t3, .ref t4, .ref t5, .ref t6, .int 0, .int 0, .ref t9, .ref t10, .int 0, .ref t12, .ref t13, .ref t14, .ref t15, .int 0, .ref t17, .ref t18, .ref t19]))] sz) [(g, .inr (11, [.ref g0, .ref g1, .ref g2, .int 0, .ref g4, .ref g5, .ref g6, .ref g7, .ref g8, .ref g9, .ref g10, .ref g11, .ref g12])), (g1, .inr (10, [.int 0, .int 0, .int 0, .ref t3, .ref t4, .ref t5, .ref t6, .int 0, .int 0, .ref t9, .ref t10, .int 0, .ref t12, .ref t13, .ref t14, .ref t15, .int 0, .ref t17, .ref t18, .ref t19]))] tZ) (va_A [(g, .inr (11, [.ref g0, .ref g1, .ref g2, .int 0, .ref g4, .ref g5, .ref g6, .ref g7, .ref g8, .ref g9, .ref g10, .ref g11, .ref g12])), (g1, .inr (10, [.int 0, .int 0, .int 0, .ref t3, .ref t4, .ref t5, .ref t6, .int 0, .int 0, .ref t9, .ref t10, .int 0, .ref t12, .ref t13, .ref t14, .ref t15, .int 0, .ref t17, .ref t18, .ref t19]))] sz)) 0 0 (va_A [(g, .inr (11, [.ref g0, .ref g1, .ref g2, .int 0, .ref g4, .ref g5, .ref g6, .ref g7, .ref g8, .ref g9, .ref g10, .ref g11, .ref g12])), (g1, .inr (10, [.int 0, .int 0, .int 0, .ref t3, .ref t4, .ref t5, .ref t6, .int 0, .int 0, .ref t9, .ref t10, .int 0, .ref t12, .ref t13, .ref t14, .ref t15, .int 0, .ref t17, .ref t18, .ref t19]))] sz) := by
  refine Met.ofW (cc := cX11_asks) (maxL := 2) (ret := (some .int)) (by decide +kernel) rfl ?_
  intro p e s m args below meth c s₁ B hml hv
  obtain ⟨rfl, hsz, hP, hK, hD0, hN⟩ := hv
  have hx := B.exec
  have hb := B.bytes
  have hr := B.returns
  have hts : ∀ w ∈ TT, w.before _ s = true := fun w h => atoms_spec (ws := ww yX11_asks cX11_asks 2 (some .int)) B.pre w (List.mem_cons_of_mem _ h)
  have hown : s.vm.findClass RX11 = some m.cls := findClass_of_methodNamed B.named
  have hlocks := B.notSynchronized
  subst hsz
  have hD := hD0.self (sz := s.heap.size)
  generalize hAe : va_A [(g, .inr (11, [.ref g0, .ref g1, .ref g2, .int 0, .ref g4, .ref g5, .ref g6, .ref g7, .ref g8, .ref g9, .ref g10, .ref g11, .ref g12])), (g1, .inr (10, [.int 0, .int 0, .int 0, .ref t3, .ref t4, .ref t5, .ref t6, .int 0, .int 0, .ref t9, .ref t10, .int 0, .ref t12, .ref t13, .ref t14, .ref t15, .int 0, .ref t17, .ref t18, .ref t19]))] s.heap.size = A at hD ⊢
  have hA : ∀ q : Nat, s.heap.size ≤ q → A q := fun q h => by rw [← hAe]; exact Or.inr h
  have hS : va_S A s.heap s.heap [] := va_S.rf
  have hl := lv_entry ([.ref g, .int p0]) (n := 2) (Nat.le_of_ble_eq_true rfl)
  rw [lg_entry_eq]
  generalize (lg_sl ([.ref g, .int p0]) ++ List.replicate (2 - (lg_sl ([.ref g, .int p0])).length) Slot.unset).toArray = ls at hl ⊢
  have hl : lv_has ls 2 [(0, .ref g), (1, .int p0)] := hl
  refine lv_aload_n hx hb dX11_asks_0 rfl (lv_at hl 0 rfl) ?_
  refine lv_iload_n hx hb dX11_asks_1 rfl (lv_at hl 1 rfl) ?_
  have hPc := hP.sub (ws' := [(g, .inr (11, [.ref g0, .ref g1, .ref g2, .int 0, .ref g4, .ref g5, .ref g6, .ref g7, .ref g8, .ref g9, .ref g10, .ref g11, .ref g12])), (g1, .inr (10, [.int 0, .int 0, .int 0, .ref t3, .ref t4, .ref t5, .ref t6, .int 0, .int 0, .ref t9, .ref t10, .int 0, .ref t12, .ref t13, .ref t14, .ref t15, .int 0, .ref t17, .ref t18, .ref t19]))]) [0, 1] rfl
  have hDc := hD.sub (ws' := [(g, .inr (11, [.ref g0, .ref g1, .ref g2, .int 0, .ref g4, .ref g5, .ref g6, .ref g7, .ref g8, .ref g9, .ref g10, .ref g11, .ref g12])), (g1, .inr (10, [.int 0, .int 0, .int 0, .ref t3, .ref t4, .ref t5, .ref t6, .int 0, .int 0, .ref t9, .ref t10, .int 0, .ref t12, .ref t13, .ref t14, .ref t15, .int 0, .ref t17, .ref t18, .ref t19]))]) [0, 1] (by decide) rfl
  have hFc := va_free (wc := [(g, .inr (11, [.ref g0, .ref g1, .ref g2, .int 0, .ref g4, .ref g5, .ref g6, .ref g7, .ref g8, .ref g9, .ref g10, .ref g11, .ref g12])), (g1, .inr (10, [.int 0, .int 0, .int 0, .ref t3, .ref t4, .ref t5, .ref t6, .int 0, .int 0, .ref t9, .ref t10, .int 0, .ref t12, .ref t13, .ref t14, .ref t15, .int 0, .ref t17, .ref t18, .ref t19]))]) hD hS hA [0, 1] rfl
  refine va_calli (va_runV (C := RX11) (As := [.int p0]) (rest := []) ⟨hx, hb, hml, hown, hts⟩ (c_X11_isGate l D k g g0 g1 g2 g4 g5 g6 g7 g8 g9 g10 g11 g12 t3 t4 t5 t6 t9 t10 t12 t13 t14 t15 t17 t18 t19 p0 s.heap.size) (cwV 1 hts (gV tw_3_155 tw_3_157 tw_p_16 tw_1_1 tw_3_158) rfl rfl rfl hdV_X11_isGate ⟨Nat.le_of_ble_eq_true rfl, Nat.le_of_ble_eq_true rfl⟩) (cz_V hK hPc hDc hN (ci := 11) (q0 := 0) rfl rfl [.int p0]) rfl rfl hl.1 rfl (lv_room (Nat.le_of_ble_eq_true rfl)) dX11_asks_2 ⟨Nat.le_of_ble_eq_true rfl, Nat.le_of_ble_eq_true rfl⟩) hS (fun q _ h => hFc q h) hFc (fun r_1 uZ tZ H1 locs ht hvm hw hB hz1 hk1 hS => ?_)
  obtain ⟨hP1, hK1, hD1⟩ := hB
  rw [ht] at hP1
  obtain ⟨hP, hD⟩ := va_join (wr := []) (w1 := [(g, .inr (11, [.ref g0, .ref g1, .ref g2, .int 0, .ref g4, .ref g5, .ref g6, .ref g7, .ref g8, .ref g9, .ref g10, .ref g11, .ref g12])), (g1, .inr (10, [.int 0, .int 0, .int 0, .ref t3, .ref t4, .ref t5, .ref t6, .int 0, .int 0, .ref t9, .ref t10, .int 0, .ref t12, .ref t13, .ref t14, .ref t15, .int 0, .ref t17, .ref t18, .ref t19]))]) hP hD [0, 1] [] rfl rfl (by decide) (by decide) hk1 hFc hP1 hD1
  clear hK1 hP1 hD1 hPc hDc hFc
  clear hk1 hz1 ht hvm
  have hP : va_P D vwCl [(g, .inr (11, [.ref g0, .ref g1, .ref g2, .int 0, .ref g4, .ref g5, .ref g6, .ref g7, .ref g8, .ref g9, .ref g10, .ref g11, .ref g12])), (g1, .inr (10, [.int 0, .int 0, .int 0, .ref t3, .ref t4, .ref t5, .ref t6, .int 0, .int 0, .ref t9, .ref t10, .int 0, .ref t12, .ref t13, .ref t14, .ref t15, .int 0, .ref t17, .ref t18, .ref t19]))] H1 := hP
  have hD : va_D A [(g, .inr (11, [.ref g0, .ref g1, .ref g2, .int 0, .ref g4, .ref g5, .ref g6, .ref g7, .ref g8, .ref g9, .ref g10, .ref g11, .ref g12])), (g1, .inr (10, [.int 0, .int 0, .int 0, .ref t3, .ref t4, .ref t5, .ref t6, .int 0, .int 0, .ref t9, .ref t10, .int 0, .ref t12, .ref t13, .ref t14, .ref t15, .int 0, .ref t17, .ref t18, .ref t19]))] := hD
  generalize H1 = H at hP hS ⊢
  obtain rfl : r_1 = 0 := hw
  refine lv_if_ne (tgt := 11) hx hb dX11_asks_5 (by decide) (fun c9 => absurd c9 (by decide)) (fun _ => ?_)
  refine lv_bipush (v := (-2)) hx hb dX11_asks_8 (by decide) ?_
  have hP9 := hP.sub (ws' := [(g, .inr (11, [.ref g0, .ref g1, .ref g2, .int 0, .ref g4, .ref g5, .ref g6, .ref g7, .ref g8, .ref g9, .ref g10, .ref g11, .ref g12])), (g1, .inr (10, [.int 0, .int 0, .int 0, .ref t3, .ref t4, .ref t5, .ref t6, .int 0, .int 0, .ref t9, .ref t10, .int 0, .ref t12, .ref t13, .ref t14, .ref t15, .int 0, .ref t17, .ref t18, .ref t19]))]) [0, 1] rfl
  have hD9 := hD.sub (ws' := [(g, .inr (11, [.ref g0, .ref g1, .ref g2, .int 0, .ref g4, .ref g5, .ref g6, .ref g7, .ref g8, .ref g9, .ref g10, .ref g11, .ref g12])), (g1, .inr (10, [.int 0, .int 0, .int 0, .ref t3, .ref t4, .ref t5, .ref t6, .int 0, .int 0, .ref t9, .ref t10, .int 0, .ref t12, .ref t13, .ref t14, .ref t15, .int 0, .ref t17, .ref t18, .ref t19]))]) [0, 1] (by decide) rfl
  exact W.iret (v := (-2)) hx hb hr (fun tZ ht hW => ⟨⟨(-2), (), rfl, rfl, by rw [ht]; exact hP9, va_K.moved hW.alike hK, hD9⟩, hS.F ht⟩) hS.2.2 dX11_asks_10
set_option maxHeartbeats 4000000 in
set_option maxRecDepth 100000 in
theorem c_X11_brings (l : Launch) (D : va_G) (k : Nat → ClassId) (g : Nat) (g0 : Nat) (g1 : Nat) (g2 : Nat) (g4 : Nat) (g5 : Nat) (g6 : Nat) (g7 : Nat) (g8 : Nat) (g9 : Nat) (g10 : Nat) (g11 : Nat) (g12 : Nat) (t3 : Nat) (t4 : Nat) (t5 : Nat) (t6 : Nat) (t9 : Nat) (t10 : Nat) (t12 : Nat) (t13 : Nat) (t14 : Nat) (t15 : Nat) (t17 : Nat) (t18 : Nat) (t19 : Nat) (p0 : Int32) (sz : Nat) : Met l yX11_brings (ww yX11_brings cX11_brings 2 (some .int)) ({ frames := 1, cells := 0, slots := 0, locals := 21 }) (Pre0 D k [(g, .inr (11, [.ref g0, .ref g1, .ref g2, .int 0, .ref g4, .ref g5, .ref g6, .ref g7, .ref g8, .ref g9, .ref g10, .ref g11, .ref g12])), (g1, .inr (10, [.int 0, .int 0, .int 0, .ref t3, .ref t4, .ref t5, .ref t6, .int 0, .int 0, .ref t9, .ref t10, .int 0, .ref t12, .ref t13, .ref t14, .ref t15, .int 0, .ref t17, .ref t18, .ref t19]))] sz [.ref g, .int p0]) (va_Qi (fun (r : Int32) (_ : Unit) => r = (-2)) (fun (_ : Unit) tZ => Bw D k (va_A [(g, .inr (11, [.ref g0, .ref g1, .ref g2, .int 0, .ref g4, .ref g5, .ref g6, .ref g7, .ref g8, .ref g9, .ref g10, .ref g11, .ref g12])), (g1, .inr (10, [.int 0, .int 0, .int 0, .ref t3, .ref t4, .ref t5, .ref t6, .int 0, .int 0, .ref t9, .ref t10, .int 0, .ref t12, .ref t13, .ref t14, .ref t15, .int 0, .ref t17, .ref t18, .ref t19]))] sz) [(g, .inr (11, [.ref g0, .ref g1, .ref g2, .int 0, .ref g4, .ref g5, .ref g6, .ref g7, .ref g8, .ref g9, .ref g10, .ref g11, .ref g12])), (g1, .inr (10, [.int 0, .int 0, .int 0, .ref t3, .ref t4, .ref t5, .ref t6, .int 0, .int 0, .ref t9, .ref t10, .int 0, .ref t12, .ref t13, .ref t14, .ref t15, .int 0, .ref t17, .ref t18, .ref t19]))] tZ) (va_A [(g, .inr (11, [.ref g0, .ref g1, .ref g2, .int 0, .ref g4, .ref g5, .ref g6, .ref g7, .ref g8, .ref g9, .ref g10, .ref g11, .ref g12])), (g1, .inr (10, [.int 0, .int 0, .int 0, .ref t3, .ref t4, .ref t5, .ref t6, .int 0, .int 0, .ref t9, .ref t10, .int 0, .ref t12, .ref t13, .ref t14, .ref t15, .int 0, .ref t17, .ref t18, .ref t19]))] sz)) 0 0 (va_A [(g, .inr (11, [.ref g0, .ref g1, .ref g2, .int 0, .ref g4, .ref g5, .ref g6, .ref g7, .ref g8, .ref g9, .ref g10, .ref g11, .ref g12])), (g1, .inr (10, [.int 0, .int 0, .int 0, .ref t3, .ref t4, .ref t5, .ref t6, .int 0, .int 0, .ref t9, .ref t10, .int 0, .ref t12, .ref t13, .ref t14, .ref t15, .int 0, .ref t17, .ref t18, .ref t19]))] sz) := by
  refine Met.ofW (cc := cX11_brings) (maxL := 2) (ret := (some .int)) (by decide +kernel) rfl ?_
  intro p e s m args below meth c s₁ B hml hv
  obtain ⟨rfl, hsz, hP, hK, hD0, hN⟩ := hv
  have hx := B.exec
  have hb := B.bytes
  have hr := B.returns
  have hts : ∀ w ∈ TT, w.before _ s = true := fun w h => atoms_spec (ws := ww yX11_brings cX11_brings 2 (some .int)) B.pre w (List.mem_cons_of_mem _ h)
  have hown : s.vm.findClass RX11 = some m.cls := findClass_of_methodNamed B.named
  have hlocks := B.notSynchronized
  subst hsz
  have hD := hD0.self (sz := s.heap.size)
  generalize hAe : va_A [(g, .inr (11, [.ref g0, .ref g1, .ref g2, .int 0, .ref g4, .ref g5, .ref g6, .ref g7, .ref g8, .ref g9, .ref g10, .ref g11, .ref g12])), (g1, .inr (10, [.int 0, .int 0, .int 0, .ref t3, .ref t4, .ref t5, .ref t6, .int 0, .int 0, .ref t9, .ref t10, .int 0, .ref t12, .ref t13, .ref t14, .ref t15, .int 0, .ref t17, .ref t18, .ref t19]))] s.heap.size = A at hD ⊢
  have hA : ∀ q : Nat, s.heap.size ≤ q → A q := fun q h => by rw [← hAe]; exact Or.inr h
  have hS : va_S A s.heap s.heap [] := va_S.rf
  have hl := lv_entry ([.ref g, .int p0]) (n := 2) (Nat.le_of_ble_eq_true rfl)
  rw [lg_entry_eq]
  generalize (lg_sl ([.ref g, .int p0]) ++ List.replicate (2 - (lg_sl ([.ref g, .int p0])).length) Slot.unset).toArray = ls at hl ⊢
  have hl : lv_has ls 2 [(0, .ref g), (1, .int p0)] := hl
  refine lv_aload_n hx hb dX11_brings_0 rfl (lv_at hl 0 rfl) ?_
  refine lv_iload_n hx hb dX11_brings_1 rfl (lv_at hl 1 rfl) ?_
  have hPc := hP.sub (ws' := [(g, .inr (11, [.ref g0, .ref g1, .ref g2, .int 0, .ref g4, .ref g5, .ref g6, .ref g7, .ref g8, .ref g9, .ref g10, .ref g11, .ref g12])), (g1, .inr (10, [.int 0, .int 0, .int 0, .ref t3, .ref t4, .ref t5, .ref t6, .int 0, .int 0, .ref t9, .ref t10, .int 0, .ref t12, .ref t13, .ref t14, .ref t15, .int 0, .ref t17, .ref t18, .ref t19]))]) [0, 1] rfl
  have hDc := hD.sub (ws' := [(g, .inr (11, [.ref g0, .ref g1, .ref g2, .int 0, .ref g4, .ref g5, .ref g6, .ref g7, .ref g8, .ref g9, .ref g10, .ref g11, .ref g12])), (g1, .inr (10, [.int 0, .int 0, .int 0, .ref t3, .ref t4, .ref t5, .ref t6, .int 0, .int 0, .ref t9, .ref t10, .int 0, .ref t12, .ref t13, .ref t14, .ref t15, .int 0, .ref t17, .ref t18, .ref t19]))]) [0, 1] (by decide) rfl
  have hFc := va_free (wc := [(g, .inr (11, [.ref g0, .ref g1, .ref g2, .int 0, .ref g4, .ref g5, .ref g6, .ref g7, .ref g8, .ref g9, .ref g10, .ref g11, .ref g12])), (g1, .inr (10, [.int 0, .int 0, .int 0, .ref t3, .ref t4, .ref t5, .ref t6, .int 0, .int 0, .ref t9, .ref t10, .int 0, .ref t12, .ref t13, .ref t14, .ref t15, .int 0, .ref t17, .ref t18, .ref t19]))]) hD hS hA [0, 1] rfl
  refine va_calli (va_runV (C := RX11) (As := [.int p0]) (rest := []) ⟨hx, hb, hml, hown, hts⟩ (c_X11_isGate l D k g g0 g1 g2 g4 g5 g6 g7 g8 g9 g10 g11 g12 t3 t4 t5 t6 t9 t10 t12 t13 t14 t15 t17 t18 t19 p0 s.heap.size) (cwV 1 hts (gV tw_3_155 tw_3_157 tw_p_16 tw_1_1 tw_3_158) rfl rfl rfl hdV_X11_isGate ⟨Nat.le_of_ble_eq_true rfl, Nat.le_of_ble_eq_true rfl⟩) (cz_V hK hPc hDc hN (ci := 11) (q0 := 0) rfl rfl [.int p0]) rfl rfl hl.1 rfl (lv_room (Nat.le_of_ble_eq_true rfl)) dX11_brings_2 ⟨Nat.le_of_ble_eq_true rfl, Nat.le_of_ble_eq_true rfl⟩) hS (fun q _ h => hFc q h) hFc (fun r_1 uZ tZ H1 locs ht hvm hw hB hz1 hk1 hS => ?_)
  obtain ⟨hP1, hK1, hD1⟩ := hB
  rw [ht] at hP1
  obtain ⟨hP, hD⟩ := va_join (wr := []) (w1 := [(g, .inr (11, [.ref g0, .ref g1, .ref g2, .int 0, .ref g4, .ref g5, .ref g6, .ref g7, .ref g8, .ref g9, .ref g10, .ref g11, .ref g12])), (g1, .inr (10, [.int 0, .int 0, .int 0, .ref t3, .ref t4, .ref t5, .ref t6, .int 0, .int 0, .ref t9, .ref t10, .int 0, .ref t12, .ref t13, .ref t14, .ref t15, .int 0, .ref t17, .ref t18, .ref t19]))]) hP hD [0, 1] [] rfl rfl (by decide) (by decide) hk1 hFc hP1 hD1
  clear hK1 hP1 hD1 hPc hDc hFc
  clear hk1 hz1 ht hvm
  have hP : va_P D vwCl [(g, .inr (11, [.ref g0, .ref g1, .ref g2, .int 0, .ref g4, .ref g5, .ref g6, .ref g7, .ref g8, .ref g9, .ref g10, .ref g11, .ref g12])), (g1, .inr (10, [.int 0, .int 0, .int 0, .ref t3, .ref t4, .ref t5, .ref t6, .int 0, .int 0, .ref t9, .ref t10, .int 0, .ref t12, .ref t13, .ref t14, .ref t15, .int 0, .ref t17, .ref t18, .ref t19]))] H1 := hP
  have hD : va_D A [(g, .inr (11, [.ref g0, .ref g1, .ref g2, .int 0, .ref g4, .ref g5, .ref g6, .ref g7, .ref g8, .ref g9, .ref g10, .ref g11, .ref g12])), (g1, .inr (10, [.int 0, .int 0, .int 0, .ref t3, .ref t4, .ref t5, .ref t6, .int 0, .int 0, .ref t9, .ref t10, .int 0, .ref t12, .ref t13, .ref t14, .ref t15, .int 0, .ref t17, .ref t18, .ref t19]))] := hD
  generalize H1 = H at hP hS ⊢
  obtain rfl : r_1 = 0 := hw
  refine lv_if_ne (tgt := 11) hx hb dX11_brings_5 (by decide) (fun c9 => absurd c9 (by decide)) (fun _ => ?_)
  refine lv_bipush (v := (-2)) hx hb dX11_brings_8 (by decide) ?_
  have hP9 := hP.sub (ws' := [(g, .inr (11, [.ref g0, .ref g1, .ref g2, .int 0, .ref g4, .ref g5, .ref g6, .ref g7, .ref g8, .ref g9, .ref g10, .ref g11, .ref g12])), (g1, .inr (10, [.int 0, .int 0, .int 0, .ref t3, .ref t4, .ref t5, .ref t6, .int 0, .int 0, .ref t9, .ref t10, .int 0, .ref t12, .ref t13, .ref t14, .ref t15, .int 0, .ref t17, .ref t18, .ref t19]))]) [0, 1] rfl
  have hD9 := hD.sub (ws' := [(g, .inr (11, [.ref g0, .ref g1, .ref g2, .int 0, .ref g4, .ref g5, .ref g6, .ref g7, .ref g8, .ref g9, .ref g10, .ref g11, .ref g12])), (g1, .inr (10, [.int 0, .int 0, .int 0, .ref t3, .ref t4, .ref t5, .ref t6, .int 0, .int 0, .ref t9, .ref t10, .int 0, .ref t12, .ref t13, .ref t14, .ref t15, .int 0, .ref t17, .ref t18, .ref t19]))]) [0, 1] (by decide) rfl
  exact W.iret (v := (-2)) hx hb hr (fun tZ ht hW => ⟨⟨(-2), (), rfl, rfl, by rw [ht]; exact hP9, va_K.moved hW.alike hK, hD9⟩, hS.F ht⟩) hS.2.2 dX11_brings_10
set_option maxHeartbeats 4000000 in
set_option maxRecDepth 100000 in
theorem c_X11_fits (l : Launch) (D : va_G) (k : Nat → ClassId) (g : Nat) (g0 : Nat) (g1 : Nat) (g2 : Nat) (g4 : Nat) (g5 : Nat) (g6 : Nat) (g7 : Nat) (g8 : Nat) (g9 : Nat) (g10 : Nat) (g11 : Nat) (g12 : Nat) (t3 : Nat) (t4 : Nat) (t5 : Nat) (t6 : Nat) (t9 : Nat) (t10 : Nat) (t12 : Nat) (t13 : Nat) (t14 : Nat) (t15 : Nat) (t17 : Nat) (t18 : Nat) (t19 : Nat) (p0 : Int32) (sz : Nat) : Met l yX11_fits (ww yX11_fits cX11_fits 3 (some .int)) ({ frames := 2, cells := 0, slots := 0, locals := 41 }) (Pre0 D k [(g, .inr (11, [.ref g0, .ref g1, .ref g2, .int 0, .ref g4, .ref g5, .ref g6, .ref g7, .ref g8, .ref g9, .ref g10, .ref g11, .ref g12])), (g1, .inr (10, [.int 0, .int 0, .int 0, .ref t3, .ref t4, .ref t5, .ref t6, .int 0, .int 0, .ref t9, .ref t10, .int 0, .ref t12, .ref t13, .ref t14, .ref t15, .int 0, .ref t17, .ref t18, .ref t19]))] sz [.ref g, .int p0]) (va_Qi (fun (r : Int32) (_ : Unit) => r = (-2)) (fun (_ : Unit) tZ => Bw D k (va_A [(g, .inr (11, [.ref g0, .ref g1, .ref g2, .int 0, .ref g4, .ref g5, .ref g6, .ref g7, .ref g8, .ref g9, .ref g10, .ref g11, .ref g12])), (g1, .inr (10, [.int 0, .int 0, .int 0, .ref t3, .ref t4, .ref t5, .ref t6, .int 0, .int 0, .ref t9, .ref t10, .int 0, .ref t12, .ref t13, .ref t14, .ref t15, .int 0, .ref t17, .ref t18, .ref t19]))] sz) [(g, .inr (11, [.ref g0, .ref g1, .ref g2, .int 0, .ref g4, .ref g5, .ref g6, .ref g7, .ref g8, .ref g9, .ref g10, .ref g11, .ref g12])), (g1, .inr (10, [.int 0, .int 0, .int 0, .ref t3, .ref t4, .ref t5, .ref t6, .int 0, .int 0, .ref t9, .ref t10, .int 0, .ref t12, .ref t13, .ref t14, .ref t15, .int 0, .ref t17, .ref t18, .ref t19]))] tZ) (va_A [(g, .inr (11, [.ref g0, .ref g1, .ref g2, .int 0, .ref g4, .ref g5, .ref g6, .ref g7, .ref g8, .ref g9, .ref g10, .ref g11, .ref g12])), (g1, .inr (10, [.int 0, .int 0, .int 0, .ref t3, .ref t4, .ref t5, .ref t6, .int 0, .int 0, .ref t9, .ref t10, .int 0, .ref t12, .ref t13, .ref t14, .ref t15, .int 0, .ref t17, .ref t18, .ref t19]))] sz)) 0 0 (va_A [(g, .inr (11, [.ref g0, .ref g1, .ref g2, .int 0, .ref g4, .ref g5, .ref g6, .ref g7, .ref g8, .ref g9, .ref g10, .ref g11, .ref g12])), (g1, .inr (10, [.int 0, .int 0, .int 0, .ref t3, .ref t4, .ref t5, .ref t6, .int 0, .int 0, .ref t9, .ref t10, .int 0, .ref t12, .ref t13, .ref t14, .ref t15, .int 0, .ref t17, .ref t18, .ref t19]))] sz) := by
  refine Met.ofW (cc := cX11_fits) (maxL := 3) (ret := (some .int)) (by decide +kernel) rfl ?_
  intro p e s m args below meth c s₁ B hml hv
  obtain ⟨rfl, hsz, hP, hK, hD0, hN⟩ := hv
  have hx := B.exec
  have hb := B.bytes
  have hr := B.returns
  have hts : ∀ w ∈ TT, w.before _ s = true := fun w h => atoms_spec (ws := ww yX11_fits cX11_fits 3 (some .int)) B.pre w (List.mem_cons_of_mem _ h)
  have hown : s.vm.findClass RX11 = some m.cls := findClass_of_methodNamed B.named
  have hlocks := B.notSynchronized
  subst hsz
  have hD := hD0.self (sz := s.heap.size)
  generalize hAe : va_A [(g, .inr (11, [.ref g0, .ref g1, .ref g2, .int 0, .ref g4, .ref g5, .ref g6, .ref g7, .ref g8, .ref g9, .ref g10, .ref g11, .ref g12])), (g1, .inr (10, [.int 0, .int 0, .int 0, .ref t3, .ref t4, .ref t5, .ref t6, .int 0, .int 0, .ref t9, .ref t10, .int 0, .ref t12, .ref t13, .ref t14, .ref t15, .int 0, .ref t17, .ref t18, .ref t19]))] s.heap.size = A at hD ⊢
  have hA : ∀ q : Nat, s.heap.size ≤ q → A q := fun q h => by rw [← hAe]; exact Or.inr h
  have hS : va_S A s.heap s.heap [] := va_S.rf
  have hl := lv_entry ([.ref g, .int p0]) (n := 3) (Nat.le_of_ble_eq_true rfl)
  rw [lg_entry_eq]
  generalize (lg_sl ([.ref g, .int p0]) ++ List.replicate (3 - (lg_sl ([.ref g, .int p0])).length) Slot.unset).toArray = ls at hl ⊢
  have hl : lv_has ls 3 [(0, .ref g), (1, .int p0)] := hl
  refine lv_aload_n hx hb dX11_fits_0 rfl (lv_at hl 0 rfl) ?_
  refine lv_iload_n hx hb dX11_fits_1 rfl (lv_at hl 1 rfl) ?_
  have hPc := hP.sub (ws' := [(g, .inr (11, [.ref g0, .ref g1, .ref g2, .int 0, .ref g4, .ref g5, .ref g6, .ref g7, .ref g8, .ref g9, .ref g10, .ref g11, .ref g12])), (g1, .inr (10, [.int 0, .int 0, .int 0, .ref t3, .ref t4, .ref t5, .ref t6, .int 0, .int 0, .ref t9, .ref t10, .int 0, .ref t12, .ref t13, .ref t14, .ref t15, .int 0, .ref t17, .ref t18, .ref t19]))]) [0, 1] rfl
  have hDc := hD.sub (ws' := [(g, .inr (11, [.ref g0, .ref g1, .ref g2, .int 0, .ref g4, .ref g5, .ref g6, .ref g7, .ref g8, .ref g9, .ref g10, .ref g11, .ref g12])), (g1, .inr (10, [.int 0, .int 0, .int 0, .ref t3, .ref t4, .ref t5, .ref t6, .int 0, .int 0, .ref t9, .ref t10, .int 0, .ref t12, .ref t13, .ref t14, .ref t15, .int 0, .ref t17, .ref t18, .ref t19]))]) [0, 1] (by decide) rfl
  have hFc := va_free (wc := [(g, .inr (11, [.ref g0, .ref g1, .ref g2, .int 0, .ref g4, .ref g5, .ref g6, .ref g7, .ref g8, .ref g9, .ref g10, .ref g11, .ref g12])), (g1, .inr (10, [.int 0, .int 0, .int 0, .ref t3, .ref t4, .ref t5, .ref t6, .int 0, .int 0, .ref t9, .ref t10, .int 0, .ref t12, .ref t13, .ref t14, .ref t15, .int 0, .ref t17, .ref t18, .ref t19]))]) hD hS hA [0, 1] rfl
  refine va_calli (va_runV (C := RX11) (As := [.int p0]) (rest := []) ⟨hx, hb, hml, hown, hts⟩ (c_X11_refusedSlot l D k g g0 g1 g2 g4 g5 g6 g7 g8 g9 g10 g11 g12 t3 t4 t5 t6 t9 t10 t12 t13 t14 t15 t17 t18 t19 p0 s.heap.size) (cwV 1 hts (gV tw_4_209 tw_4_211 tw_p_28 tw_1_1 tw_4_212) rfl rfl rfl hdV_X11_refusedSlot ⟨Nat.le_of_ble_eq_true rfl, Nat.le_of_ble_eq_true rfl⟩) (cz_V hK hPc hDc hN (ci := 11) (q0 := 0) rfl rfl [.int p0]) rfl rfl hl.1 rfl (lv_room (Nat.le_of_ble_eq_true rfl)) dX11_fits_2 ⟨Nat.le_of_ble_eq_true rfl, Nat.le_of_ble_eq_true rfl⟩) hS (fun q _ h => hFc q h) hFc (fun r_1 uZ tZ H1 locs ht hvm hw hB hz1 hk1 hS => ?_)
  obtain ⟨hP1, hK1, hD1⟩ := hB
  rw [ht] at hP1
  obtain ⟨hP, hD⟩ := va_join (wr := []) (w1 := [(g, .inr (11, [.ref g0, .ref g1, .ref g2, .int 0, .ref g4, .ref g5, .ref g6, .ref g7, .ref g8, .ref g9, .ref g10, .ref g11, .ref g12])), (g1, .inr (10, [.int 0, .int 0, .int 0, .ref t3, .ref t4, .ref t5, .ref t6, .int 0, .int 0, .ref t9, .ref t10, .int 0, .ref t12, .ref t13, .ref t14, .ref t15, .int 0, .ref t17, .ref t18, .ref t19]))]) hP hD [0, 1] [] rfl rfl (by decide) (by decide) hk1 hFc hP1 hD1
  clear hK1 hP1 hD1 hPc hDc hFc
  clear hk1 hz1 ht hvm
  have hP : va_P D vwCl [(g, .inr (11, [.ref g0, .ref g1, .ref g2, .int 0, .ref g4, .ref g5, .ref g6, .ref g7, .ref g8, .ref g9, .ref g10, .ref g11, .ref g12])), (g1, .inr (10, [.int 0, .int 0, .int 0, .ref t3, .ref t4, .ref t5, .ref t6, .int 0, .int 0, .ref t9, .ref t10, .int 0, .ref t12, .ref t13, .ref t14, .ref t15, .int 0, .ref t17, .ref t18, .ref t19]))] H1 := hP
  have hD : va_D A [(g, .inr (11, [.ref g0, .ref g1, .ref g2, .int 0, .ref g4, .ref g5, .ref g6, .ref g7, .ref g8, .ref g9, .ref g10, .ref g11, .ref g12])), (g1, .inr (10, [.int 0, .int 0, .int 0, .ref t3, .ref t4, .ref t5, .ref t6, .int 0, .int 0, .ref t9, .ref t10, .int 0, .ref t12, .ref t13, .ref t14, .ref t15, .int 0, .ref t17, .ref t18, .ref t19]))] := hD
  generalize H1 = H at hP hS ⊢
  obtain rfl : r_1 = (-2) := hw
  refine lv_istore_n (lv' := [(2, .int (-2)), (0, .ref g), (1, .int p0)]) hx hb dX11_fits_5 rfl hl (by decide) rfl (fun ls hl => ?_)
  refine lv_iload_n hx hb dX11_fits_6 rfl (lv_at hl 0 rfl) ?_
  refine lv_if_eq (tgt := 12) hx hb dX11_fits_7 (by decide) (fun c9 => absurd c9 (by decide)) (fun _ => ?_)
  refine lv_iload_n hx hb dX11_fits_10 rfl (lv_at hl 0 rfl) ?_
  have hP9 := hP.sub (ws' := [(g, .inr (11, [.ref g0, .ref g1, .ref g2, .int 0, .ref g4, .ref g5, .ref g6, .ref g7, .ref g8, .ref g9, .ref g10, .ref g11, .ref g12])), (g1, .inr (10, [.int 0, .int 0, .int 0, .ref t3, .ref t4, .ref t5, .ref t6, .int 0, .int 0, .ref t9, .ref t10, .int 0, .ref t12, .ref t13, .ref t14, .ref t15, .int 0, .ref t17, .ref t18, .ref t19]))]) [0, 1] rfl
  have hD9 := hD.sub (ws' := [(g, .inr (11, [.ref g0, .ref g1, .ref g2, .int 0, .ref g4, .ref g5, .ref g6, .ref g7, .ref g8, .ref g9, .ref g10, .ref g11, .ref g12])), (g1, .inr (10, [.int 0, .int 0, .int 0, .ref t3, .ref t4, .ref t5, .ref t6, .int 0, .int 0, .ref t9, .ref t10, .int 0, .ref t12, .ref t13, .ref t14, .ref t15, .int 0, .ref t17, .ref t18, .ref t19]))]) [0, 1] (by decide) rfl
  exact W.iret (v := (-2)) hx hb hr (fun tZ ht hW => ⟨⟨(-2), (), rfl, rfl, by rw [ht]; exact hP9, va_K.moved hW.alike hK, hD9⟩, hS.F ht⟩) hS.2.2 dX11_fits_11
set_option maxHeartbeats 4000000 in
set_option maxRecDepth 100000 in
theorem c_X11_held (l : Launch) (D : va_G) (k : Nat → ClassId) (g : Nat) (g0 : Nat) (g1 : Nat) (g2 : Nat) (g4 : Nat) (g5 : Nat) (g6 : Nat) (g7 : Nat) (g8 : Nat) (g9 : Nat) (g10 : Nat) (g11 : Nat) (g12 : Nat) (t3 : Nat) (t4 : Nat) (t5 : Nat) (t6 : Nat) (t9 : Nat) (t10 : Nat) (t12 : Nat) (t13 : Nat) (t14 : Nat) (t15 : Nat) (t17 : Nat) (t18 : Nat) (t19 : Nat) (p0 : Int32) (sz : Nat) : Met l yX11_held (ww yX11_held cX11_held 5 (some .int)) ({ frames := 2, cells := 0, slots := 0, locals := 41 }) (Pre0 D k [(g, .inr (11, [.ref g0, .ref g1, .ref g2, .int 0, .ref g4, .ref g5, .ref g6, .ref g7, .ref g8, .ref g9, .ref g10, .ref g11, .ref g12])), (g1, .inr (10, [.int 0, .int 0, .int 0, .ref t3, .ref t4, .ref t5, .ref t6, .int 0, .int 0, .ref t9, .ref t10, .int 0, .ref t12, .ref t13, .ref t14, .ref t15, .int 0, .ref t17, .ref t18, .ref t19]))] sz [.ref g, .int p0]) (va_Qi (fun (r : Int32) (_ : Unit) => r = (-2)) (fun (_ : Unit) tZ => Bw D k (va_A [(g, .inr (11, [.ref g0, .ref g1, .ref g2, .int 0, .ref g4, .ref g5, .ref g6, .ref g7, .ref g8, .ref g9, .ref g10, .ref g11, .ref g12])), (g1, .inr (10, [.int 0, .int 0, .int 0, .ref t3, .ref t4, .ref t5, .ref t6, .int 0, .int 0, .ref t9, .ref t10, .int 0, .ref t12, .ref t13, .ref t14, .ref t15, .int 0, .ref t17, .ref t18, .ref t19]))] sz) [(g, .inr (11, [.ref g0, .ref g1, .ref g2, .int 0, .ref g4, .ref g5, .ref g6, .ref g7, .ref g8, .ref g9, .ref g10, .ref g11, .ref g12])), (g1, .inr (10, [.int 0, .int 0, .int 0, .ref t3, .ref t4, .ref t5, .ref t6, .int 0, .int 0, .ref t9, .ref t10, .int 0, .ref t12, .ref t13, .ref t14, .ref t15, .int 0, .ref t17, .ref t18, .ref t19]))] tZ) (va_A [(g, .inr (11, [.ref g0, .ref g1, .ref g2, .int 0, .ref g4, .ref g5, .ref g6, .ref g7, .ref g8, .ref g9, .ref g10, .ref g11, .ref g12])), (g1, .inr (10, [.int 0, .int 0, .int 0, .ref t3, .ref t4, .ref t5, .ref t6, .int 0, .int 0, .ref t9, .ref t10, .int 0, .ref t12, .ref t13, .ref t14, .ref t15, .int 0, .ref t17, .ref t18, .ref t19]))] sz)) 0 0 (va_A [(g, .inr (11, [.ref g0, .ref g1, .ref g2, .int 0, .ref g4, .ref g5, .ref g6, .ref g7, .ref g8, .ref g9, .ref g10, .ref g11, .ref g12])), (g1, .inr (10, [.int 0, .int 0, .int 0, .ref t3, .ref t4, .ref t5, .ref t6, .int 0, .int 0, .ref t9, .ref t10, .int 0, .ref t12, .ref t13, .ref t14, .ref t15, .int 0, .ref t17, .ref t18, .ref t19]))] sz) := by
  refine Met.ofW (cc := cX11_held) (maxL := 5) (ret := (some .int)) (by decide +kernel) rfl ?_
  intro p e s m args below meth c s₁ B hml hv
  obtain ⟨rfl, hsz, hP, hK, hD0, hN⟩ := hv
  have hx := B.exec
  have hb := B.bytes
  have hr := B.returns
  have hts : ∀ w ∈ TT, w.before _ s = true := fun w h => atoms_spec (ws := ww yX11_held cX11_held 5 (some .int)) B.pre w (List.mem_cons_of_mem _ h)
  have hown : s.vm.findClass RX11 = some m.cls := findClass_of_methodNamed B.named
  have hlocks := B.notSynchronized
  subst hsz
  have hD := hD0.self (sz := s.heap.size)
  generalize hAe : va_A [(g, .inr (11, [.ref g0, .ref g1, .ref g2, .int 0, .ref g4, .ref g5, .ref g6, .ref g7, .ref g8, .ref g9, .ref g10, .ref g11, .ref g12])), (g1, .inr (10, [.int 0, .int 0, .int 0, .ref t3, .ref t4, .ref t5, .ref t6, .int 0, .int 0, .ref t9, .ref t10, .int 0, .ref t12, .ref t13, .ref t14, .ref t15, .int 0, .ref t17, .ref t18, .ref t19]))] s.heap.size = A at hD ⊢
  have hA : ∀ q : Nat, s.heap.size ≤ q → A q := fun q h => by rw [← hAe]; exact Or.inr h
  have hS : va_S A s.heap s.heap [] := va_S.rf
  have hl := lv_entry ([.ref g, .int p0]) (n := 5) (Nat.le_of_ble_eq_true rfl)
  rw [lg_entry_eq]
  generalize (lg_sl ([.ref g, .int p0]) ++ List.replicate (5 - (lg_sl ([.ref g, .int p0])).length) Slot.unset).toArray = ls at hl ⊢
  have hl : lv_has ls 5 [(0, .ref g), (1, .int p0)] := hl
  refine lv_aload_n hx hb dX11_held_0 rfl (lv_at hl 0 rfl) ?_
  refine lv_iload_n hx hb dX11_held_1 rfl (lv_at hl 1 rfl) ?_
  have hPc := hP.sub (ws' := [(g, .inr (11, [.ref g0, .ref g1, .ref g2, .int 0, .ref g4, .ref g5, .ref g6, .ref g7, .ref g8, .ref g9, .ref g10, .ref g11, .ref g12])), (g1, .inr (10, [.int 0, .int 0, .int 0, .ref t3, .ref t4, .ref t5, .ref t6, .int 0, .int 0, .ref t9, .ref t10, .int 0, .ref t12, .ref t13, .ref t14, .ref t15, .int 0, .ref t17, .ref t18, .ref t19]))]) [0, 1] rfl
  have hDc := hD.sub (ws' := [(g, .inr (11, [.ref g0, .ref g1, .ref g2, .int 0, .ref g4, .ref g5, .ref g6, .ref g7, .ref g8, .ref g9, .ref g10, .ref g11, .ref g12])), (g1, .inr (10, [.int 0, .int 0, .int 0, .ref t3, .ref t4, .ref t5, .ref t6, .int 0, .int 0, .ref t9, .ref t10, .int 0, .ref t12, .ref t13, .ref t14, .ref t15, .int 0, .ref t17, .ref t18, .ref t19]))]) [0, 1] (by decide) rfl
  have hFc := va_free (wc := [(g, .inr (11, [.ref g0, .ref g1, .ref g2, .int 0, .ref g4, .ref g5, .ref g6, .ref g7, .ref g8, .ref g9, .ref g10, .ref g11, .ref g12])), (g1, .inr (10, [.int 0, .int 0, .int 0, .ref t3, .ref t4, .ref t5, .ref t6, .int 0, .int 0, .ref t9, .ref t10, .int 0, .ref t12, .ref t13, .ref t14, .ref t15, .int 0, .ref t17, .ref t18, .ref t19]))]) hD hS hA [0, 1] rfl
  refine va_calli (va_runV (C := RX11) (As := [.int p0]) (rest := []) ⟨hx, hb, hml, hown, hts⟩ (c_X11_refusedSlot l D k g g0 g1 g2 g4 g5 g6 g7 g8 g9 g10 g11 g12 t3 t4 t5 t6 t9 t10 t12 t13 t14 t15 t17 t18 t19 p0 s.heap.size) (cwV 1 hts (gV tw_4_209 tw_4_211 tw_p_28 tw_1_1 tw_4_212) rfl rfl rfl hdV_X11_refusedSlot ⟨Nat.le_of_ble_eq_true rfl, Nat.le_of_ble_eq_true rfl⟩) (cz_V hK hPc hDc hN (ci := 11) (q0 := 0) rfl rfl [.int p0]) rfl rfl hl.1 rfl (lv_room (Nat.le_of_ble_eq_true rfl)) dX11_held_2 ⟨Nat.le_of_ble_eq_true rfl, Nat.le_of_ble_eq_true rfl⟩) hS (fun q _ h => hFc q h) hFc (fun r_1 uZ tZ H1 locs ht hvm hw hB hz1 hk1 hS => ?_)
  obtain ⟨hP1, hK1, hD1⟩ := hB
  rw [ht] at hP1
  obtain ⟨hP, hD⟩ := va_join (wr := []) (w1 := [(g, .inr (11, [.ref g0, .ref g1, .ref g2, .int 0, .ref g4, .ref g5, .ref g6, .ref g7, .ref g8, .ref g9, .ref g10, .ref g11, .ref g12])), (g1, .inr (10, [.int 0, .int 0, .int 0, .ref t3, .ref t4, .ref t5, .ref t6, .int 0, .int 0, .ref t9, .ref t10, .int 0, .ref t12, .ref t13, .ref t14, .ref t15, .int 0, .ref t17, .ref t18, .ref t19]))]) hP hD [0, 1] [] rfl rfl (by decide) (by decide) hk1 hFc hP1 hD1
  clear hK1 hP1 hD1 hPc hDc hFc
  clear hk1 hz1 ht hvm
  have hP : va_P D vwCl [(g, .inr (11, [.ref g0, .ref g1, .ref g2, .int 0, .ref g4, .ref g5, .ref g6, .ref g7, .ref g8, .ref g9, .ref g10, .ref g11, .ref g12])), (g1, .inr (10, [.int 0, .int 0, .int 0, .ref t3, .ref t4, .ref t5, .ref t6, .int 0, .int 0, .ref t9, .ref t10, .int 0, .ref t12, .ref t13, .ref t14, .ref t15, .int 0, .ref t17, .ref t18, .ref t19]))] H1 := hP
  have hD : va_D A [(g, .inr (11, [.ref g0, .ref g1, .ref g2, .int 0, .ref g4, .ref g5, .ref g6, .ref g7, .ref g8, .ref g9, .ref g10, .ref g11, .ref g12])), (g1, .inr (10, [.int 0, .int 0, .int 0, .ref t3, .ref t4, .ref t5, .ref t6, .int 0, .int 0, .ref t9, .ref t10, .int 0, .ref t12, .ref t13, .ref t14, .ref t15, .int 0, .ref t17, .ref t18, .ref t19]))] := hD
  generalize H1 = H at hP hS ⊢
  obtain rfl : r_1 = (-2) := hw
  refine lv_istore_n (lv' := [(2, .int (-2)), (0, .ref g), (1, .int p0)]) hx hb dX11_held_5 rfl hl (by decide) rfl (fun ls hl => ?_)
  refine lv_iload_n hx hb dX11_held_6 rfl (lv_at hl 0 rfl) ?_
  refine lv_if_eq (tgt := 12) hx hb dX11_held_7 (by decide) (fun c9 => absurd c9 (by decide)) (fun _ => ?_)
  refine lv_iload_n hx hb dX11_held_10 rfl (lv_at hl 0 rfl) ?_
  have hP9 := hP.sub (ws' := [(g, .inr (11, [.ref g0, .ref g1, .ref g2, .int 0, .ref g4, .ref g5, .ref g6, .ref g7, .ref g8, .ref g9, .ref g10, .ref g11, .ref g12])), (g1, .inr (10, [.int 0, .int 0, .int 0, .ref t3, .ref t4, .ref t5, .ref t6, .int 0, .int 0, .ref t9, .ref t10, .int 0, .ref t12, .ref t13, .ref t14, .ref t15, .int 0, .ref t17, .ref t18, .ref t19]))]) [0, 1] rfl
  have hD9 := hD.sub (ws' := [(g, .inr (11, [.ref g0, .ref g1, .ref g2, .int 0, .ref g4, .ref g5, .ref g6, .ref g7, .ref g8, .ref g9, .ref g10, .ref g11, .ref g12])), (g1, .inr (10, [.int 0, .int 0, .int 0, .ref t3, .ref t4, .ref t5, .ref t6, .int 0, .int 0, .ref t9, .ref t10, .int 0, .ref t12, .ref t13, .ref t14, .ref t15, .int 0, .ref t17, .ref t18, .ref t19]))]) [0, 1] (by decide) rfl
  exact W.iret (v := (-2)) hx hb hr (fun tZ ht hW => ⟨⟨(-2), (), rfl, rfl, by rw [ht]; exact hP9, va_K.moved hW.alike hK, hD9⟩, hS.F ht⟩) hS.2.2 dX11_held_11
set_option maxHeartbeats 4000000 in
set_option maxRecDepth 100000 in
theorem c_X11_fit (l : Launch) (D : va_G) (k : Nat → ClassId) (g : Nat) (g0 : Nat) (g1 : Nat) (g2 : Nat) (g4 : Nat) (g5 : Nat) (g6 : Nat) (g7 : Nat) (g8 : Nat) (g9 : Nat) (g10 : Nat) (g11 : Nat) (g12 : Nat) (t3 : Nat) (t4 : Nat) (t5 : Nat) (t6 : Nat) (t9 : Nat) (t10 : Nat) (t12 : Nat) (t13 : Nat) (t14 : Nat) (t15 : Nat) (t17 : Nat) (t18 : Nat) (t19 : Nat) (p0 : Int32) (p1 : Int32) (sz : Nat) : Met l yX11_fit (ww yX11_fit cX11_fit 4 (some .int)) ({ frames := 1, cells := 0, slots := 0, locals := 21 }) (Pre0 D k [(g, .inr (11, [.ref g0, .ref g1, .ref g2, .int 0, .ref g4, .ref g5, .ref g6, .ref g7, .ref g8, .ref g9, .ref g10, .ref g11, .ref g12])), (g1, .inr (10, [.int 0, .int 0, .int 0, .ref t3, .ref t4, .ref t5, .ref t6, .int 0, .int 0, .ref t9, .ref t10, .int 0, .ref t12, .ref t13, .ref t14, .ref t15, .int 0, .ref t17, .ref t18, .ref t19]))] sz [.ref g, .int p0, .int p1]) (va_Qi (fun (r : Int32) (_ : Unit) => r = (-2)) (fun (_ : Unit) tZ => Bw D k (va_A [(g, .inr (11, [.ref g0, .ref g1, .ref g2, .int 0, .ref g4, .ref g5, .ref g6, .ref g7, .ref g8, .ref g9, .ref g10, .ref g11, .ref g12])), (g1, .inr (10, [.int 0, .int 0, .int 0, .ref t3, .ref t4, .ref t5, .ref t6, .int 0, .int 0, .ref t9, .ref t10, .int 0, .ref t12, .ref t13, .ref t14, .ref t15, .int 0, .ref t17, .ref t18, .ref t19]))] sz) [(g, .inr (11, [.ref g0, .ref g1, .ref g2, .int 0, .ref g4, .ref g5, .ref g6, .ref g7, .ref g8, .ref g9, .ref g10, .ref g11, .ref g12])), (g1, .inr (10, [.int 0, .int 0, .int 0, .ref t3, .ref t4, .ref t5, .ref t6, .int 0, .int 0, .ref t9, .ref t10, .int 0, .ref t12, .ref t13, .ref t14, .ref t15, .int 0, .ref t17, .ref t18, .ref t19]))] tZ) (va_A [(g, .inr (11, [.ref g0, .ref g1, .ref g2, .int 0, .ref g4, .ref g5, .ref g6, .ref g7, .ref g8, .ref g9, .ref g10, .ref g11, .ref g12])), (g1, .inr (10, [.int 0, .int 0, .int 0, .ref t3, .ref t4, .ref t5, .ref t6, .int 0, .int 0, .ref t9, .ref t10, .int 0, .ref t12, .ref t13, .ref t14, .ref t15, .int 0, .ref t17, .ref t18, .ref t19]))] sz)) 0 0 (va_A [(g, .inr (11, [.ref g0, .ref g1, .ref g2, .int 0, .ref g4, .ref g5, .ref g6, .ref g7, .ref g8, .ref g9, .ref g10, .ref g11, .ref g12])), (g1, .inr (10, [.int 0, .int 0, .int 0, .ref t3, .ref t4, .ref t5, .ref t6, .int 0, .int 0, .ref t9, .ref t10, .int 0, .ref t12, .ref t13, .ref t14, .ref t15, .int 0, .ref t17, .ref t18, .ref t19]))] sz) := by
  refine Met.ofW (cc := cX11_fit) (maxL := 4) (ret := (some .int)) (by decide +kernel) rfl ?_
  intro p e s m args below meth c s₁ B hml hv
  obtain ⟨rfl, hsz, hP, hK, hD0, hN⟩ := hv
  have hx := B.exec
  have hb := B.bytes
  have hr := B.returns
  have hts : ∀ w ∈ TT, w.before _ s = true := fun w h => atoms_spec (ws := ww yX11_fit cX11_fit 4 (some .int)) B.pre w (List.mem_cons_of_mem _ h)
  have hown : s.vm.findClass RX11 = some m.cls := findClass_of_methodNamed B.named
  have hlocks := B.notSynchronized
  subst hsz
  have hD := hD0.self (sz := s.heap.size)
  generalize hAe : va_A [(g, .inr (11, [.ref g0, .ref g1, .ref g2, .int 0, .ref g4, .ref g5, .ref g6, .ref g7, .ref g8, .ref g9, .ref g10, .ref g11, .ref g12])), (g1, .inr (10, [.int 0, .int 0, .int 0, .ref t3, .ref t4, .ref t5, .ref t6, .int 0, .int 0, .ref t9, .ref t10, .int 0, .ref t12, .ref t13, .ref t14, .ref t15, .int 0, .ref t17, .ref t18, .ref t19]))] s.heap.size = A at hD ⊢
  have hA : ∀ q : Nat, s.heap.size ≤ q → A q := fun q h => by rw [← hAe]; exact Or.inr h
  have hS : va_S A s.heap s.heap [] := va_S.rf
  have hl := lv_entry ([.ref g, .int p0, .int p1]) (n := 4) (Nat.le_of_ble_eq_true rfl)
  rw [lg_entry_eq]
  generalize (lg_sl ([.ref g, .int p0, .int p1]) ++ List.replicate (4 - (lg_sl ([.ref g, .int p0, .int p1])).length) Slot.unset).toArray = ls at hl ⊢
  have hl : lv_has ls 4 [(0, .ref g), (1, .int p0), (2, .int p1)] := hl
  refine lv_aload_n hx hb dX11_fit_0 rfl (lv_at hl 0 rfl) ?_
  refine lv_iload_n hx hb dX11_fit_1 rfl (lv_at hl 2 rfl) ?_
  have hPc := hP.sub (ws' := [(g, .inr (11, [.ref g0, .ref g1, .ref g2, .int 0, .ref g4, .ref g5, .ref g6, .ref g7, .ref g8, .ref g9, .ref g10, .ref g11, .ref g12])), (g1, .inr (10, [.int 0, .int 0, .int 0, .ref t3, .ref t4, .ref t5, .ref t6, .int 0, .int 0, .ref t9, .ref t10, .int 0, .ref t12, .ref t13, .ref t14, .ref t15, .int 0, .ref t17, .ref t18, .ref t19]))]) [0, 1] rfl
  have hDc := hD.sub (ws' := [(g, .inr (11, [.ref g0, .ref g1, .ref g2, .int 0, .ref g4, .ref g5, .ref g6, .ref g7, .ref g8, .ref g9, .ref g10, .ref g11, .ref g12])), (g1, .inr (10, [.int 0, .int 0, .int 0, .ref t3, .ref t4, .ref t5, .ref t6, .int 0, .int 0, .ref t9, .ref t10, .int 0, .ref t12, .ref t13, .ref t14, .ref t15, .int 0, .ref t17, .ref t18, .ref t19]))]) [0, 1] (by decide) rfl
  have hFc := va_free (wc := [(g, .inr (11, [.ref g0, .ref g1, .ref g2, .int 0, .ref g4, .ref g5, .ref g6, .ref g7, .ref g8, .ref g9, .ref g10, .ref g11, .ref g12])), (g1, .inr (10, [.int 0, .int 0, .int 0, .ref t3, .ref t4, .ref t5, .ref t6, .int 0, .int 0, .ref t9, .ref t10, .int 0, .ref t12, .ref t13, .ref t14, .ref t15, .int 0, .ref t17, .ref t18, .ref t19]))]) hD hS hA [0, 1] rfl
  refine va_calli (va_runV (C := RX11) (As := [.int p1]) (rest := []) ⟨hx, hb, hml, hown, hts⟩ (c_X11_isGate l D k g g0 g1 g2 g4 g5 g6 g7 g8 g9 g10 g11 g12 t3 t4 t5 t6 t9 t10 t12 t13 t14 t15 t17 t18 t19 p1 s.heap.size) (cwV 1 hts (gV tw_3_155 tw_3_157 tw_p_16 tw_1_1 tw_3_158) rfl rfl rfl hdV_X11_isGate ⟨Nat.le_of_ble_eq_true rfl, Nat.le_of_ble_eq_true rfl⟩) (cz_V hK hPc hDc hN (ci := 11) (q0 := 0) rfl rfl [.int p1]) rfl rfl hl.1 rfl (lv_room (Nat.le_of_ble_eq_true rfl)) dX11_fit_2 ⟨Nat.le_of_ble_eq_true rfl, Nat.le_of_ble_eq_true rfl⟩) hS (fun q _ h => hFc q h) hFc (fun r_1 uZ tZ H1 locs ht hvm hw hB hz1 hk1 hS => ?_)
  obtain ⟨hP1, hK1, hD1⟩ := hB
  rw [ht] at hP1
  obtain ⟨hP, hD⟩ := va_join (wr := []) (w1 := [(g, .inr (11, [.ref g0, .ref g1, .ref g2, .int 0, .ref g4, .ref g5, .ref g6, .ref g7, .ref g8, .ref g9, .ref g10, .ref g11, .ref g12])), (g1, .inr (10, [.int 0, .int 0, .int 0, .ref t3, .ref t4, .ref t5, .ref t6, .int 0, .int 0, .ref t9, .ref t10, .int 0, .ref t12, .ref t13, .ref t14, .ref t15, .int 0, .ref t17, .ref t18, .ref t19]))]) hP hD [0, 1] [] rfl rfl (by decide) (by decide) hk1 hFc hP1 hD1
  clear hK1 hP1 hD1 hPc hDc hFc
  clear hk1 hz1 ht hvm
  have hP : va_P D vwCl [(g, .inr (11, [.ref g0, .ref g1, .ref g2, .int 0, .ref g4, .ref g5, .ref g6, .ref g7, .ref g8, .ref g9, .ref g10, .ref g11, .ref g12])), (g1, .inr (10, [.int 0, .int 0, .int 0, .ref t3, .ref t4, .ref t5, .ref t6, .int 0, .int 0, .ref t9, .ref t10, .int 0, .ref t12, .ref t13, .ref t14, .ref t15, .int 0, .ref t17, .ref t18, .ref t19]))] H1 := hP
  have hD : va_D A [(g, .inr (11, [.ref g0, .ref g1, .ref g2, .int 0, .ref g4, .ref g5, .ref g6, .ref g7, .ref g8, .ref g9, .ref g10, .ref g11, .ref g12])), (g1, .inr (10, [.int 0, .int 0, .int 0, .ref t3, .ref t4, .ref t5, .ref t6, .int 0, .int 0, .ref t9, .ref t10, .int 0, .ref t12, .ref t13, .ref t14, .ref t15, .int 0, .ref t17, .ref t18, .ref t19]))] := hD
  generalize H1 = H at hP hS ⊢
  obtain rfl : r_1 = 0 := hw
  refine lv_if_ne (tgt := 11) hx hb dX11_fit_5 (by decide) (fun c9 => absurd c9 (by decide)) (fun _ => ?_)
  refine lv_bipush (v := (-2)) hx hb dX11_fit_8 (by decide) ?_
  have hP9 := hP.sub (ws' := [(g, .inr (11, [.ref g0, .ref g1, .ref g2, .int 0, .ref g4, .ref g5, .ref g6, .ref g7, .ref g8, .ref g9, .ref g10, .ref g11, .ref g12])), (g1, .inr (10, [.int 0, .int 0, .int 0, .ref t3, .ref t4, .ref t5, .ref t6, .int 0, .int 0, .ref t9, .ref t10, .int 0, .ref t12, .ref t13, .ref t14, .ref t15, .int 0, .ref t17, .ref t18, .ref t19]))]) [0, 1] rfl
  have hD9 := hD.sub (ws' := [(g, .inr (11, [.ref g0, .ref g1, .ref g2, .int 0, .ref g4, .ref g5, .ref g6, .ref g7, .ref g8, .ref g9, .ref g10, .ref g11, .ref g12])), (g1, .inr (10, [.int 0, .int 0, .int 0, .ref t3, .ref t4, .ref t5, .ref t6, .int 0, .int 0, .ref t9, .ref t10, .int 0, .ref t12, .ref t13, .ref t14, .ref t15, .int 0, .ref t17, .ref t18, .ref t19]))]) [0, 1] (by decide) rfl
  exact W.iret (v := (-2)) hx hb hr (fun tZ ht hW => ⟨⟨(-2), (), rfl, rfl, by rw [ht]; exact hP9, va_K.moved hW.alike hK, hD9⟩, hS.F ht⟩) hS.2.2 dX11_fit_10
set_option maxHeartbeats 4000000 in
set_option maxRecDepth 100000 in
theorem c_X11_ask (l : Launch) (D : va_G) (k : Nat → ClassId) (g : Nat) (g0 : Nat) (g1 : Nat) (g2 : Nat) (g4 : Nat) (g5 : Nat) (g6 : Nat) (g7 : Nat) (g8 : Nat) (g9 : Nat) (g10 : Nat) (g11 : Nat) (g12 : Nat) (t3 : Nat) (t4 : Nat) (t5 : Nat) (t6 : Nat) (t9 : Nat) (t10 : Nat) (t12 : Nat) (t13 : Nat) (t14 : Nat) (t15 : Nat) (t17 : Nat) (t18 : Nat) (t19 : Nat) (p0 : Int32) (sz : Nat) : Met l yX11_ask (ww yX11_ask cX11_ask 3 (some .int)) ({ frames := 2, cells := 0, slots := 0, locals := 41 }) (Pre0 D k [(g, .inr (11, [.ref g0, .ref g1, .ref g2, .int 0, .ref g4, .ref g5, .ref g6, .ref g7, .ref g8, .ref g9, .ref g10, .ref g11, .ref g12])), (g1, .inr (10, [.int 0, .int 0, .int 0, .ref t3, .ref t4, .ref t5, .ref t6, .int 0, .int 0, .ref t9, .ref t10, .int 0, .ref t12, .ref t13, .ref t14, .ref t15, .int 0, .ref t17, .ref t18, .ref t19]))] sz [.ref g, .int p0]) (va_Qi (fun (r : Int32) (_ : Unit) => r = (-2)) (fun (_ : Unit) tZ => Bw D k (va_A [(g, .inr (11, [.ref g0, .ref g1, .ref g2, .int 0, .ref g4, .ref g5, .ref g6, .ref g7, .ref g8, .ref g9, .ref g10, .ref g11, .ref g12])), (g1, .inr (10, [.int 0, .int 0, .int 0, .ref t3, .ref t4, .ref t5, .ref t6, .int 0, .int 0, .ref t9, .ref t10, .int 0, .ref t12, .ref t13, .ref t14, .ref t15, .int 0, .ref t17, .ref t18, .ref t19]))] sz) [(g, .inr (11, [.ref g0, .ref g1, .ref g2, .int 0, .ref g4, .ref g5, .ref g6, .ref g7, .ref g8, .ref g9, .ref g10, .ref g11, .ref g12])), (g1, .inr (10, [.int 0, .int 0, .int 0, .ref t3, .ref t4, .ref t5, .ref t6, .int 0, .int 0, .ref t9, .ref t10, .int 0, .ref t12, .ref t13, .ref t14, .ref t15, .int 0, .ref t17, .ref t18, .ref t19]))] tZ) (va_A [(g, .inr (11, [.ref g0, .ref g1, .ref g2, .int 0, .ref g4, .ref g5, .ref g6, .ref g7, .ref g8, .ref g9, .ref g10, .ref g11, .ref g12])), (g1, .inr (10, [.int 0, .int 0, .int 0, .ref t3, .ref t4, .ref t5, .ref t6, .int 0, .int 0, .ref t9, .ref t10, .int 0, .ref t12, .ref t13, .ref t14, .ref t15, .int 0, .ref t17, .ref t18, .ref t19]))] sz)) 0 0 (va_A [(g, .inr (11, [.ref g0, .ref g1, .ref g2, .int 0, .ref g4, .ref g5, .ref g6, .ref g7, .ref g8, .ref g9, .ref g10, .ref g11, .ref g12])), (g1, .inr (10, [.int 0, .int 0, .int 0, .ref t3, .ref t4, .ref t5, .ref t6, .int 0, .int 0, .ref t9, .ref t10, .int 0, .ref t12, .ref t13, .ref t14, .ref t15, .int 0, .ref t17, .ref t18, .ref t19]))] sz) := by
  refine Met.ofW (cc := cX11_ask) (maxL := 3) (ret := (some .int)) (by decide +kernel) rfl ?_
  intro p e s m args below meth c s₁ B hml hv
  obtain ⟨rfl, hsz, hP, hK, hD0, hN⟩ := hv
  have hx := B.exec
  have hb := B.bytes
  have hr := B.returns
  have hts : ∀ w ∈ TT, w.before _ s = true := fun w h => atoms_spec (ws := ww yX11_ask cX11_ask 3 (some .int)) B.pre w (List.mem_cons_of_mem _ h)
  have hown : s.vm.findClass RX11 = some m.cls := findClass_of_methodNamed B.named
  have hlocks := B.notSynchronized
  subst hsz
  have hD := hD0.self (sz := s.heap.size)
  generalize hAe : va_A [(g, .inr (11, [.ref g0, .ref g1, .ref g2, .int 0, .ref g4, .ref g5, .ref g6, .ref g7, .ref g8, .ref g9, .ref g10, .ref g11, .ref g12])), (g1, .inr (10, [.int 0, .int 0, .int 0, .ref t3, .ref t4, .ref t5, .ref t6, .int 0, .int 0, .ref t9, .ref t10, .int 0, .ref t12, .ref t13, .ref t14, .ref t15, .int 0, .ref t17, .ref t18, .ref t19]))] s.heap.size = A at hD ⊢
  have hA : ∀ q : Nat, s.heap.size ≤ q → A q := fun q h => by rw [← hAe]; exact Or.inr h
  have hS : va_S A s.heap s.heap [] := va_S.rf
  have hl := lv_entry ([.ref g, .int p0]) (n := 3) (Nat.le_of_ble_eq_true rfl)
  rw [lg_entry_eq]
  generalize (lg_sl ([.ref g, .int p0]) ++ List.replicate (3 - (lg_sl ([.ref g, .int p0])).length) Slot.unset).toArray = ls at hl ⊢
  have hl : lv_has ls 3 [(0, .ref g), (1, .int p0)] := hl
  refine lv_aload_n hx hb dX11_ask_0 rfl (lv_at hl 0 rfl) ?_
  refine lv_iload_n hx hb dX11_ask_1 rfl (lv_at hl 1 rfl) ?_
  have hPc := hP.sub (ws' := [(g, .inr (11, [.ref g0, .ref g1, .ref g2, .int 0, .ref g4, .ref g5, .ref g6, .ref g7, .ref g8, .ref g9, .ref g10, .ref g11, .ref g12])), (g1, .inr (10, [.int 0, .int 0, .int 0, .ref t3, .ref t4, .ref t5, .ref t6, .int 0, .int 0, .ref t9, .ref t10, .int 0, .ref t12, .ref t13, .ref t14, .ref t15, .int 0, .ref t17, .ref t18, .ref t19]))]) [0, 1] rfl
  have hDc := hD.sub (ws' := [(g, .inr (11, [.ref g0, .ref g1, .ref g2, .int 0, .ref g4, .ref g5, .ref g6, .ref g7, .ref g8, .ref g9, .ref g10, .ref g11, .ref g12])), (g1, .inr (10, [.int 0, .int 0, .int 0, .ref t3, .ref t4, .ref t5, .ref t6, .int 0, .int 0, .ref t9, .ref t10, .int 0, .ref t12, .ref t13, .ref t14, .ref t15, .int 0, .ref t17, .ref t18, .ref t19]))]) [0, 1] (by decide) rfl
  have hFc := va_free (wc := [(g, .inr (11, [.ref g0, .ref g1, .ref g2, .int 0, .ref g4, .ref g5, .ref g6, .ref g7, .ref g8, .ref g9, .ref g10, .ref g11, .ref g12])), (g1, .inr (10, [.int 0, .int 0, .int 0, .ref t3, .ref t4, .ref t5, .ref t6, .int 0, .int 0, .ref t9, .ref t10, .int 0, .ref t12, .ref t13, .ref t14, .ref t15, .int 0, .ref t17, .ref t18, .ref t19]))]) hD hS hA [0, 1] rfl
  refine va_calli (va_runV (C := RX11) (As := [.int p0]) (rest := []) ⟨hx, hb, hml, hown, hts⟩ (c_X11_refusedSlot l D k g g0 g1 g2 g4 g5 g6 g7 g8 g9 g10 g11 g12 t3 t4 t5 t6 t9 t10 t12 t13 t14 t15 t17 t18 t19 p0 s.heap.size) (cwV 1 hts (gV tw_4_209 tw_4_211 tw_p_28 tw_1_1 tw_4_212) rfl rfl rfl hdV_X11_refusedSlot ⟨Nat.le_of_ble_eq_true rfl, Nat.le_of_ble_eq_true rfl⟩) (cz_V hK hPc hDc hN (ci := 11) (q0 := 0) rfl rfl [.int p0]) rfl rfl hl.1 rfl (lv_room (Nat.le_of_ble_eq_true rfl)) dX11_ask_2 ⟨Nat.le_of_ble_eq_true rfl, Nat.le_of_ble_eq_true rfl⟩) hS (fun q _ h => hFc q h) hFc (fun r_1 uZ tZ H1 locs ht hvm hw hB hz1 hk1 hS => ?_)
  obtain ⟨hP1, hK1, hD1⟩ := hB
  rw [ht] at hP1
  obtain ⟨hP, hD⟩ := va_join (wr := []) (w1 := [(g, .inr (11, [.ref g0, .ref g1, .ref g2, .int 0, .ref g4, .ref g5, .ref g6, .ref g7, .ref g8, .ref g9, .ref g10, .ref g11, .ref g12])), (g1, .inr (10, [.int 0, .int 0, .int 0, .ref t3, .ref t4, .ref t5, .ref t6, .int 0, .int 0, .ref t9, .ref t10, .int 0, .ref t12, .ref t13, .ref t14, .ref t15, .int 0, .ref t17, .ref t18, .ref t19]))]) hP hD [0, 1] [] rfl rfl (by decide) (by decide) hk1 hFc hP1 hD1
  clear hK1 hP1 hD1 hPc hDc hFc
  clear hk1 hz1 ht hvm
  have hP : va_P D vwCl [(g, .inr (11, [.ref g0, .ref g1, .ref g2, .int 0, .ref g4, .ref g5, .ref g6, .ref g7, .ref g8, .ref g9, .ref g10, .ref g11, .ref g12])), (g1, .inr (10, [.int 0, .int 0, .int 0, .ref t3, .ref t4, .ref t5, .ref t6, .int 0, .int 0, .ref t9, .ref t10, .int 0, .ref t12, .ref t13, .ref t14, .ref t15, .int 0, .ref t17, .ref t18, .ref t19]))] H1 := hP
  have hD : va_D A [(g, .inr (11, [.ref g0, .ref g1, .ref g2, .int 0, .ref g4, .ref g5, .ref g6, .ref g7, .ref g8, .ref g9, .ref g10, .ref g11, .ref g12])), (g1, .inr (10, [.int 0, .int 0, .int 0, .ref t3, .ref t4, .ref t5, .ref t6, .int 0, .int 0, .ref t9, .ref t10, .int 0, .ref t12, .ref t13, .ref t14, .ref t15, .int 0, .ref t17, .ref t18, .ref t19]))] := hD
  generalize H1 = H at hP hS ⊢
  obtain rfl : r_1 = (-2) := hw
  refine lv_istore_n (lv' := [(2, .int (-2)), (0, .ref g), (1, .int p0)]) hx hb dX11_ask_5 rfl hl (by decide) rfl (fun ls hl => ?_)
  refine lv_iload_n hx hb dX11_ask_6 rfl (lv_at hl 0 rfl) ?_
  refine lv_if_eq (tgt := 12) hx hb dX11_ask_7 (by decide) (fun c9 => absurd c9 (by decide)) (fun _ => ?_)
  refine lv_iload_n hx hb dX11_ask_10 rfl (lv_at hl 0 rfl) ?_
  have hP9 := hP.sub (ws' := [(g, .inr (11, [.ref g0, .ref g1, .ref g2, .int 0, .ref g4, .ref g5, .ref g6, .ref g7, .ref g8, .ref g9, .ref g10, .ref g11, .ref g12])), (g1, .inr (10, [.int 0, .int 0, .int 0, .ref t3, .ref t4, .ref t5, .ref t6, .int 0, .int 0, .ref t9, .ref t10, .int 0, .ref t12, .ref t13, .ref t14, .ref t15, .int 0, .ref t17, .ref t18, .ref t19]))]) [0, 1] rfl
  have hD9 := hD.sub (ws' := [(g, .inr (11, [.ref g0, .ref g1, .ref g2, .int 0, .ref g4, .ref g5, .ref g6, .ref g7, .ref g8, .ref g9, .ref g10, .ref g11, .ref g12])), (g1, .inr (10, [.int 0, .int 0, .int 0, .ref t3, .ref t4, .ref t5, .ref t6, .int 0, .int 0, .ref t9, .ref t10, .int 0, .ref t12, .ref t13, .ref t14, .ref t15, .int 0, .ref t17, .ref t18, .ref t19]))]) [0, 1] (by decide) rfl
  exact W.iret (v := (-2)) hx hb hr (fun tZ ht hW => ⟨⟨(-2), (), rfl, rfl, by rw [ht]; exact hP9, va_K.moved hW.alike hK, hD9⟩, hS.F ht⟩) hS.2.2 dX11_ask_11
set_option maxHeartbeats 4000000 in
set_option maxRecDepth 100000 in
theorem c_X11_leaves (l : Launch) (D : va_G) (k : Nat → ClassId) (g : Nat) (g0 : Nat) (g1 : Nat) (g2 : Nat) (g4 : Nat) (g5 : Nat) (g6 : Nat) (g7 : Nat) (g8 : Nat) (g9 : Nat) (g10 : Nat) (g11 : Nat) (g12 : Nat) (t3 : Nat) (t4 : Nat) (t5 : Nat) (t6 : Nat) (t9 : Nat) (t10 : Nat) (t12 : Nat) (t13 : Nat) (t14 : Nat) (t15 : Nat) (t17 : Nat) (t18 : Nat) (t19 : Nat) (p0 : Int32) (sz : Nat) : Met l yX11_leaves (ww yX11_leaves cX11_leaves 3 (some .int)) ({ frames := 3, cells := 0, slots := 0, locals := 63 }) (Pre0 D k [(g, .inr (11, [.ref g0, .ref g1, .ref g2, .int 0, .ref g4, .ref g5, .ref g6, .ref g7, .ref g8, .ref g9, .ref g10, .ref g11, .ref g12])), (g1, .inr (10, [.int 0, .int 0, .int 0, .ref t3, .ref t4, .ref t5, .ref t6, .int 0, .int 0, .ref t9, .ref t10, .int 0, .ref t12, .ref t13, .ref t14, .ref t15, .int 0, .ref t17, .ref t18, .ref t19]))] sz [.ref g, .int p0]) (va_Qi (fun (r : Int32) (_ : Unit) => r = (-2)) (fun (_ : Unit) tZ => Bw D k (va_A [(g, .inr (11, [.ref g0, .ref g1, .ref g2, .int 0, .ref g4, .ref g5, .ref g6, .ref g7, .ref g8, .ref g9, .ref g10, .ref g11, .ref g12])), (g1, .inr (10, [.int 0, .int 0, .int 0, .ref t3, .ref t4, .ref t5, .ref t6, .int 0, .int 0, .ref t9, .ref t10, .int 0, .ref t12, .ref t13, .ref t14, .ref t15, .int 0, .ref t17, .ref t18, .ref t19]))] sz) [(g, .inr (11, [.ref g0, .ref g1, .ref g2, .int 0, .ref g4, .ref g5, .ref g6, .ref g7, .ref g8, .ref g9, .ref g10, .ref g11, .ref g12])), (g1, .inr (10, [.int 0, .int 0, .int 0, .ref t3, .ref t4, .ref t5, .ref t6, .int 0, .int 0, .ref t9, .ref t10, .int 0, .ref t12, .ref t13, .ref t14, .ref t15, .int 0, .ref t17, .ref t18, .ref t19]))] tZ) (va_A [(g, .inr (11, [.ref g0, .ref g1, .ref g2, .int 0, .ref g4, .ref g5, .ref g6, .ref g7, .ref g8, .ref g9, .ref g10, .ref g11, .ref g12])), (g1, .inr (10, [.int 0, .int 0, .int 0, .ref t3, .ref t4, .ref t5, .ref t6, .int 0, .int 0, .ref t9, .ref t10, .int 0, .ref t12, .ref t13, .ref t14, .ref t15, .int 0, .ref t17, .ref t18, .ref t19]))] sz)) 0 0 (va_A [(g, .inr (11, [.ref g0, .ref g1, .ref g2, .int 0, .ref g4, .ref g5, .ref g6, .ref g7, .ref g8, .ref g9, .ref g10, .ref g11, .ref g12])), (g1, .inr (10, [.int 0, .int 0, .int 0, .ref t3, .ref t4, .ref t5, .ref t6, .int 0, .int 0, .ref t9, .ref t10, .int 0, .ref t12, .ref t13, .ref t14, .ref t15, .int 0, .ref t17, .ref t18, .ref t19]))] sz) := by
  refine Met.ofW (cc := cX11_leaves) (maxL := 3) (ret := (some .int)) (by decide +kernel) rfl ?_
  intro p e s m args below meth c s₁ B hml hv
  obtain ⟨rfl, hsz, hP, hK, hD0, hN⟩ := hv
  have hx := B.exec
  have hb := B.bytes
  have hr := B.returns
  have hts : ∀ w ∈ TT, w.before _ s = true := fun w h => atoms_spec (ws := ww yX11_leaves cX11_leaves 3 (some .int)) B.pre w (List.mem_cons_of_mem _ h)
  have hown : s.vm.findClass RX11 = some m.cls := findClass_of_methodNamed B.named
  have hlocks := B.notSynchronized
  subst hsz
  have hD := hD0.self (sz := s.heap.size)
  generalize hAe : va_A [(g, .inr (11, [.ref g0, .ref g1, .ref g2, .int 0, .ref g4, .ref g5, .ref g6, .ref g7, .ref g8, .ref g9, .ref g10, .ref g11, .ref g12])), (g1, .inr (10, [.int 0, .int 0, .int 0, .ref t3, .ref t4, .ref t5, .ref t6, .int 0, .int 0, .ref t9, .ref t10, .int 0, .ref t12, .ref t13, .ref t14, .ref t15, .int 0, .ref t17, .ref t18, .ref t19]))] s.heap.size = A at hD ⊢
  have hA : ∀ q : Nat, s.heap.size ≤ q → A q := fun q h => by rw [← hAe]; exact Or.inr h
  have hS : va_S A s.heap s.heap [] := va_S.rf
  have hl := lv_entry ([.ref g, .int p0]) (n := 3) (Nat.le_of_ble_eq_true rfl)
  rw [lg_entry_eq]
  generalize (lg_sl ([.ref g, .int p0]) ++ List.replicate (3 - (lg_sl ([.ref g, .int p0])).length) Slot.unset).toArray = ls at hl ⊢
  have hl : lv_has ls 3 [(0, .ref g), (1, .int p0)] := hl
  refine lv_aload_n hx hb dX11_leaves_0 rfl (lv_at hl 0 rfl) ?_
  refine lv_iload_n hx hb dX11_leaves_1 rfl (lv_at hl 1 rfl) ?_
  have hPc := hP.sub (ws' := [(g, .inr (11, [.ref g0, .ref g1, .ref g2, .int 0, .ref g4, .ref g5, .ref g6, .ref g7, .ref g8, .ref g9, .ref g10, .ref g11, .ref g12])), (g1, .inr (10, [.int 0, .int 0, .int 0, .ref t3, .ref t4, .ref t5, .ref t6, .int 0, .int 0, .ref t9, .ref t10, .int 0, .ref t12, .ref t13, .ref t14, .ref t15, .int 0, .ref t17, .ref t18, .ref t19]))]) [0, 1] rfl
  have hDc := hD.sub (ws' := [(g, .inr (11, [.ref g0, .ref g1, .ref g2, .int 0, .ref g4, .ref g5, .ref g6, .ref g7, .ref g8, .ref g9, .ref g10, .ref g11, .ref g12])), (g1, .inr (10, [.int 0, .int 0, .int 0, .ref t3, .ref t4, .ref t5, .ref t6, .int 0, .int 0, .ref t9, .ref t10, .int 0, .ref t12, .ref t13, .ref t14, .ref t15, .int 0, .ref t17, .ref t18, .ref t19]))]) [0, 1] (by decide) rfl
  have hFc := va_free (wc := [(g, .inr (11, [.ref g0, .ref g1, .ref g2, .int 0, .ref g4, .ref g5, .ref g6, .ref g7, .ref g8, .ref g9, .ref g10, .ref g11, .ref g12])), (g1, .inr (10, [.int 0, .int 0, .int 0, .ref t3, .ref t4, .ref t5, .ref t6, .int 0, .int 0, .ref t9, .ref t10, .int 0, .ref t12, .ref t13, .ref t14, .ref t15, .int 0, .ref t17, .ref t18, .ref t19]))]) hD hS hA [0, 1] rfl
  refine va_calli (va_runV (C := RX11) (As := [.int p0]) (rest := []) ⟨hx, hb, hml, hown, hts⟩ (c_X11_ask l D k g g0 g1 g2 g4 g5 g6 g7 g8 g9 g10 g11 g12 t3 t4 t5 t6 t9 t10 t12 t13 t14 t15 t17 t18 t19 p0 s.heap.size) (cwV 1 hts (gV tw_5_36 tw_5_19 tw_5_20 tw_1_1 tw_5_21) rfl rfl rfl hdV_X11_ask ⟨Nat.le_of_ble_eq_true rfl, Nat.le_of_ble_eq_true rfl⟩) (cz_V hK hPc hDc hN (ci := 11) (q0 := 0) rfl rfl [.int p0]) rfl rfl hl.1 rfl (lv_room (Nat.le_of_ble_eq_true rfl)) dX11_leaves_2 ⟨Nat.le_of_ble_eq_true rfl, Nat.le_of_ble_eq_true rfl⟩) hS (fun q _ h => hFc q h) hFc (fun r_1 uZ tZ H1 locs ht hvm hw hB hz1 hk1 hS => ?_)
  obtain ⟨hP1, hK1, hD1⟩ := hB
  rw [ht] at hP1
  obtain ⟨hP, hD⟩ := va_join (wr := []) (w1 := [(g, .inr (11, [.ref g0, .ref g1, .ref g2, .int 0, .ref g4, .ref g5, .ref g6, .ref g7, .ref g8, .ref g9, .ref g10, .ref g11, .ref g12])), (g1, .inr (10, [.int 0, .int 0, .int 0, .ref t3, .ref t4, .ref t5, .ref t6, .int 0, .int 0, .ref t9, .ref t10, .int 0, .ref t12, .ref t13, .ref t14, .ref t15, .int 0, .ref t17, .ref t18, .ref t19]))]) hP hD [0, 1] [] rfl rfl (by decide) (by decide) hk1 hFc hP1 hD1
  clear hK1 hP1 hD1 hPc hDc hFc
  clear hk1 hz1 ht hvm
  have hP : va_P D vwCl [(g, .inr (11, [.ref g0, .ref g1, .ref g2, .int 0, .ref g4, .ref g5, .ref g6, .ref g7, .ref g8, .ref g9, .ref g10, .ref g11, .ref g12])), (g1, .inr (10, [.int 0, .int 0, .int 0, .ref t3, .ref t4, .ref t5, .ref t6, .int 0, .int 0, .ref t9, .ref t10, .int 0, .ref t12, .ref t13, .ref t14, .ref t15, .int 0, .ref t17, .ref t18, .ref t19]))] H1 := hP
  have hD : va_D A [(g, .inr (11, [.ref g0, .ref g1, .ref g2, .int 0, .ref g4, .ref g5, .ref g6, .ref g7, .ref g8, .ref g9, .ref g10, .ref g11, .ref g12])), (g1, .inr (10, [.int 0, .int 0, .int 0, .ref t3, .ref t4, .ref t5, .ref t6, .int 0, .int 0, .ref t9, .ref t10, .int 0, .ref t12, .ref t13, .ref t14, .ref t15, .int 0, .ref t17, .ref t18, .ref t19]))] := hD
  generalize H1 = H at hP hS ⊢
  obtain rfl : r_1 = (-2) := hw
  refine lv_istore_n (lv' := [(2, .int (-2)), (0, .ref g), (1, .int p0)]) hx hb dX11_leaves_5 rfl hl (by decide) rfl (fun ls hl => ?_)
  refine lv_iload_n hx hb dX11_leaves_6 rfl (lv_at hl 0 rfl) ?_
  refine lv_iconst (v := (-1)) hx hb dX11_leaves_7 (by decide) ?_
  refine lv_icmp_ge (tgt := 13) hx hb dX11_leaves_8 (by decide) (fun c9 => absurd c9 (by decide)) (fun _ => ?_)
  refine lv_iload_n hx hb dX11_leaves_11 rfl (lv_at hl 0 rfl) ?_
  have hP9 := hP.sub (ws' := [(g, .inr (11, [.ref g0, .ref g1, .ref g2, .int 0, .ref g4, .ref g5, .ref g6, .ref g7, .ref g8, .ref g9, .ref g10, .ref g11, .ref g12])), (g1, .inr (10, [.int 0, .int 0, .int 0, .ref t3, .ref t4, .ref t5, .ref t6, .int 0, .int 0, .ref t9, .ref t10, .int 0, .ref t12, .ref t13, .ref t14, .ref t15, .int 0, .ref t17, .ref t18, .ref t19]))]) [0, 1] rfl
  have hD9 := hD.sub (ws' := [(g, .inr (11, [.ref g0, .ref g1, .ref g2, .int 0, .ref g4, .ref g5, .ref g6, .ref g7, .ref g8, .ref g9, .ref g10, .ref g11, .ref g12])), (g1, .inr (10, [.int 0, .int 0, .int 0, .ref t3, .ref t4, .ref t5, .ref t6, .int 0, .int 0, .ref t9, .ref t10, .int 0, .ref t12, .ref t13, .ref t14, .ref t15, .int 0, .ref t17, .ref t18, .ref t19]))]) [0, 1] (by decide) rfl
  exact W.iret (v := (-2)) hx hb hr (fun tZ ht hW => ⟨⟨(-2), (), rfl, rfl, by rw [ht]; exact hP9, va_K.moved hW.alike hK, hD9⟩, hS.F ht⟩) hS.2.2 dX11_leaves_12
set_option maxHeartbeats 4000000 in
set_option maxRecDepth 100000 in
theorem c_X11_place (l : Launch) (D : va_G) (k : Nat → ClassId) (g : Nat) (g0 : Nat) (g1 : Nat) (g2 : Nat) (g4 : Nat) (g5 : Nat) (g6 : Nat) (g7 : Nat) (g8 : Nat) (g9 : Nat) (g10 : Nat) (g11 : Nat) (g12 : Nat) (t3 : Nat) (t4 : Nat) (t5 : Nat) (t6 : Nat) (t9 : Nat) (t10 : Nat) (t12 : Nat) (t13 : Nat) (t14 : Nat) (t15 : Nat) (t17 : Nat) (t18 : Nat) (t19 : Nat) (p0 : Int32) (sz : Nat) : Met l yX11_place (ww yX11_place cX11_place 2 (some .int)) ({ frames := 1, cells := 0, slots := 0, locals := 20 }) (Pre0 D k [(g, .inr (11, [.ref g0, .ref g1, .ref g2, .int 0, .ref g4, .ref g5, .ref g6, .ref g7, .ref g8, .ref g9, .ref g10, .ref g11, .ref g12])), (g1, .inr (10, [.int 0, .int 0, .int 0, .ref t3, .ref t4, .ref t5, .ref t6, .int 0, .int 0, .ref t9, .ref t10, .int 0, .ref t12, .ref t13, .ref t14, .ref t15, .int 0, .ref t17, .ref t18, .ref t19]))] sz [.ref g, .int p0]) (va_Qi (fun (r : Int32) (_ : Unit) => r = (-2)) (fun (_ : Unit) tZ => Bw D k (va_A [(g, .inr (11, [.ref g0, .ref g1, .ref g2, .int 0, .ref g4, .ref g5, .ref g6, .ref g7, .ref g8, .ref g9, .ref g10, .ref g11, .ref g12])), (g1, .inr (10, [.int 0, .int 0, .int 0, .ref t3, .ref t4, .ref t5, .ref t6, .int 0, .int 0, .ref t9, .ref t10, .int 0, .ref t12, .ref t13, .ref t14, .ref t15, .int 0, .ref t17, .ref t18, .ref t19]))] sz) [(g, .inr (11, [.ref g0, .ref g1, .ref g2, .int 0, .ref g4, .ref g5, .ref g6, .ref g7, .ref g8, .ref g9, .ref g10, .ref g11, .ref g12])), (g1, .inr (10, [.int 0, .int 0, .int 0, .ref t3, .ref t4, .ref t5, .ref t6, .int 0, .int 0, .ref t9, .ref t10, .int 0, .ref t12, .ref t13, .ref t14, .ref t15, .int 0, .ref t17, .ref t18, .ref t19]))] tZ) (va_A [(g, .inr (11, [.ref g0, .ref g1, .ref g2, .int 0, .ref g4, .ref g5, .ref g6, .ref g7, .ref g8, .ref g9, .ref g10, .ref g11, .ref g12])), (g1, .inr (10, [.int 0, .int 0, .int 0, .ref t3, .ref t4, .ref t5, .ref t6, .int 0, .int 0, .ref t9, .ref t10, .int 0, .ref t12, .ref t13, .ref t14, .ref t15, .int 0, .ref t17, .ref t18, .ref t19]))] sz)) 0 0 (va_A [(g, .inr (11, [.ref g0, .ref g1, .ref g2, .int 0, .ref g4, .ref g5, .ref g6, .ref g7, .ref g8, .ref g9, .ref g10, .ref g11, .ref g12])), (g1, .inr (10, [.int 0, .int 0, .int 0, .ref t3, .ref t4, .ref t5, .ref t6, .int 0, .int 0, .ref t9, .ref t10, .int 0, .ref t12, .ref t13, .ref t14, .ref t15, .int 0, .ref t17, .ref t18, .ref t19]))] sz) := by
  refine Met.ofW (cc := cX11_place) (maxL := 2) (ret := (some .int)) (by decide +kernel) rfl ?_
  intro p e s m args below meth c s₁ B hml hv
  obtain ⟨rfl, hsz, hP, hK, hD0, hN⟩ := hv
  have hx := B.exec
  have hb := B.bytes
  have hr := B.returns
  have hts : ∀ w ∈ TT, w.before _ s = true := fun w h => atoms_spec (ws := ww yX11_place cX11_place 2 (some .int)) B.pre w (List.mem_cons_of_mem _ h)
  have hown : s.vm.findClass RX11 = some m.cls := findClass_of_methodNamed B.named
  have hlocks := B.notSynchronized
  subst hsz
  have hD := hD0.self (sz := s.heap.size)
  generalize hAe : va_A [(g, .inr (11, [.ref g0, .ref g1, .ref g2, .int 0, .ref g4, .ref g5, .ref g6, .ref g7, .ref g8, .ref g9, .ref g10, .ref g11, .ref g12])), (g1, .inr (10, [.int 0, .int 0, .int 0, .ref t3, .ref t4, .ref t5, .ref t6, .int 0, .int 0, .ref t9, .ref t10, .int 0, .ref t12, .ref t13, .ref t14, .ref t15, .int 0, .ref t17, .ref t18, .ref t19]))] s.heap.size = A at hD ⊢
  have hA : ∀ q : Nat, s.heap.size ≤ q → A q := fun q h => by rw [← hAe]; exact Or.inr h
  have hS : va_S A s.heap s.heap [] := va_S.rf
  have hl := lv_entry ([.ref g, .int p0]) (n := 2) (Nat.le_of_ble_eq_true rfl)
  rw [lg_entry_eq]
  generalize (lg_sl ([.ref g, .int p0]) ++ List.replicate (2 - (lg_sl ([.ref g, .int p0])).length) Slot.unset).toArray = ls at hl ⊢
  have hl : lv_has ls 2 [(0, .ref g), (1, .int p0)] := hl
  refine lv_aload_n hx hb dX11_place_0 rfl (lv_at hl 0 rfl) ?_
  have hPc := hP.sub (ws' := [(g, .inr (11, [.ref g0, .ref g1, .ref g2, .int 0, .ref g4, .ref g5, .ref g6, .ref g7, .ref g8, .ref g9, .ref g10, .ref g11, .ref g12])), (g1, .inr (10, [.int 0, .int 0, .int 0, .ref t3, .ref t4, .ref t5, .ref t6, .int 0, .int 0, .ref t9, .ref t10, .int 0, .ref t12, .ref t13, .ref t14, .ref t15, .int 0, .ref t17, .ref t18, .ref t19]))]) [0, 1] rfl
  have hDc := hD.sub (ws' := [(g, .inr (11, [.ref g0, .ref g1, .ref g2, .int 0, .ref g4, .ref g5, .ref g6, .ref g7, .ref g8, .ref g9, .ref g10, .ref g11, .ref g12])), (g1, .inr (10, [.int 0, .int 0, .int 0, .ref t3, .ref t4, .ref t5, .ref t6, .int 0, .int 0, .ref t9, .ref t10, .int 0, .ref t12, .ref t13, .ref t14, .ref t15, .int 0, .ref t17, .ref t18, .ref t19]))]) [0, 1] (by decide) rfl
  have hFc := va_free (wc := [(g, .inr (11, [.ref g0, .ref g1, .ref g2, .int 0, .ref g4, .ref g5, .ref g6, .ref g7, .ref g8, .ref g9, .ref g10, .ref g11, .ref g12])), (g1, .inr (10, [.int 0, .int 0, .int 0, .ref t3, .ref t4, .ref t5, .ref t6, .int 0, .int 0, .ref t9, .ref t10, .int 0, .ref t12, .ref t13, .ref t14, .ref t15, .int 0, .ref t17, .ref t18, .ref t19]))]) hD hS hA [0, 1] rfl
  refine va_calli (va_runV (C := RX11) (As := []) (rest := []) ⟨hx, hb, hml, hown, hts⟩ (c_X11_hasNoTown l D k g g0 g1 g2 g4 g5 g6 g7 g8 g9 g10 g11 g12 t3 t4 t5 t6 t9 t10 t12 t13 t14 t15 t17 t18 t19 s.heap.size) (cwV 0 hts (gV tw_3_235 tw_3_237 tw_p_23 tw_1_1 tw_3_238) rfl rfl rfl hdV_X11_hasNoTown ⟨Nat.le_of_ble_eq_true rfl, Nat.le_of_ble_eq_true rfl⟩) (cz_V hK hPc hDc hN (ci := 11) (q0 := 0) rfl rfl []) rfl rfl hl.1 rfl (lv_room (Nat.le_of_ble_eq_true rfl)) dX11_place_1 ⟨Nat.le_of_ble_eq_true rfl, Nat.le_of_ble_eq_true rfl⟩) hS (fun q _ h => hFc q h) hFc (fun r_1 uZ tZ H1 locs ht hvm hw hB hz1 hk1 hS => ?_)
  obtain ⟨hP1, hK1, hD1⟩ := hB
  rw [ht] at hP1
  obtain ⟨hP, hD⟩ := va_join (wr := []) (w1 := [(g, .inr (11, [.ref g0, .ref g1, .ref g2, .int 0, .ref g4, .ref g5, .ref g6, .ref g7, .ref g8, .ref g9, .ref g10, .ref g11, .ref g12])), (g1, .inr (10, [.int 0, .int 0, .int 0, .ref t3, .ref t4, .ref t5, .ref t6, .int 0, .int 0, .ref t9, .ref t10, .int 0, .ref t12, .ref t13, .ref t14, .ref t15, .int 0, .ref t17, .ref t18, .ref t19]))]) hP hD [0, 1] [] rfl rfl (by decide) (by decide) hk1 hFc hP1 hD1
  clear hK1 hP1 hD1 hPc hDc hFc
  clear hk1 hz1 ht hvm
  have hP : va_P D vwCl [(g, .inr (11, [.ref g0, .ref g1, .ref g2, .int 0, .ref g4, .ref g5, .ref g6, .ref g7, .ref g8, .ref g9, .ref g10, .ref g11, .ref g12])), (g1, .inr (10, [.int 0, .int 0, .int 0, .ref t3, .ref t4, .ref t5, .ref t6, .int 0, .int 0, .ref t9, .ref t10, .int 0, .ref t12, .ref t13, .ref t14, .ref t15, .int 0, .ref t17, .ref t18, .ref t19]))] H1 := hP
  have hD : va_D A [(g, .inr (11, [.ref g0, .ref g1, .ref g2, .int 0, .ref g4, .ref g5, .ref g6, .ref g7, .ref g8, .ref g9, .ref g10, .ref g11, .ref g12])), (g1, .inr (10, [.int 0, .int 0, .int 0, .ref t3, .ref t4, .ref t5, .ref t6, .int 0, .int 0, .ref t9, .ref t10, .int 0, .ref t12, .ref t13, .ref t14, .ref t15, .int 0, .ref t17, .ref t18, .ref t19]))] := hD
  generalize H1 = H at hP hS ⊢
  obtain rfl : r_1 = 1 := hw
  refine lv_if_ne (tgt := 14) hx hb dX11_place_4 (by decide) (fun _ => ?_) (fun c9 => absurd c9 (by decide))
  refine lv_bipush (v := (-2)) hx hb dX11_place_14 (by decide) ?_
  have hP9 := hP.sub (ws' := [(g, .inr (11, [.ref g0, .ref g1, .ref g2, .int 0, .ref g4, .ref g5, .ref g6, .ref g7, .ref g8, .ref g9, .ref g10, .ref g11, .ref g12])), (g1, .inr (10, [.int 0, .int 0, .int 0, .ref t3, .ref t4, .ref t5, .ref t6, .int 0, .int 0, .ref t9, .ref t10, .int 0, .ref t12, .ref t13, .ref t14, .ref t15, .int 0, .ref t17, .ref t18, .ref t19]))]) [0, 1] rfl
  have hD9 := hD.sub (ws' := [(g, .inr (11, [.ref g0, .ref g1, .ref g2, .int 0, .ref g4, .ref g5, .ref g6, .ref g7, .ref g8, .ref g9, .ref g10, .ref g11, .ref g12])), (g1, .inr (10, [.int 0, .int 0, .int 0, .ref t3, .ref t4, .ref t5, .ref t6, .int 0, .int 0, .ref t9, .ref t10, .int 0, .ref t12, .ref t13, .ref t14, .ref t15, .int 0, .ref t17, .ref t18, .ref t19]))]) [0, 1] (by decide) rfl
  exact W.iret (v := (-2)) hx hb hr (fun tZ ht hW => ⟨⟨(-2), (), rfl, rfl, by rw [ht]; exact hP9, va_K.moved hW.alike hK, hD9⟩, hS.F ht⟩) hS.2.2 dX11_place_16
set_option maxHeartbeats 4000000 in
set_option maxRecDepth 100000 in
theorem c_X11_places (l : Launch) (D : va_G) (k : Nat → ClassId) (g : Nat) (g0 : Nat) (g1 : Nat) (g2 : Nat) (g4 : Nat) (g5 : Nat) (g6 : Nat) (g7 : Nat) (g8 : Nat) (g9 : Nat) (g10 : Nat) (g11 : Nat) (g12 : Nat) (t3 : Nat) (t4 : Nat) (t5 : Nat) (t6 : Nat) (t9 : Nat) (t10 : Nat) (t12 : Nat) (t13 : Nat) (t14 : Nat) (t15 : Nat) (t17 : Nat) (t18 : Nat) (t19 : Nat) (p0 : Int32) (sz : Nat) : Met l yX11_places (ww yX11_places cX11_places 2 (some .int)) ({ frames := 1, cells := 0, slots := 0, locals := 20 }) (Pre0 D k [(g, .inr (11, [.ref g0, .ref g1, .ref g2, .int 0, .ref g4, .ref g5, .ref g6, .ref g7, .ref g8, .ref g9, .ref g10, .ref g11, .ref g12])), (g1, .inr (10, [.int 0, .int 0, .int 0, .ref t3, .ref t4, .ref t5, .ref t6, .int 0, .int 0, .ref t9, .ref t10, .int 0, .ref t12, .ref t13, .ref t14, .ref t15, .int 0, .ref t17, .ref t18, .ref t19]))] sz [.ref g, .int p0]) (va_Qi (fun (r : Int32) (_ : Unit) => r = (-2)) (fun (_ : Unit) tZ => Bw D k (va_A [(g, .inr (11, [.ref g0, .ref g1, .ref g2, .int 0, .ref g4, .ref g5, .ref g6, .ref g7, .ref g8, .ref g9, .ref g10, .ref g11, .ref g12])), (g1, .inr (10, [.int 0, .int 0, .int 0, .ref t3, .ref t4, .ref t5, .ref t6, .int 0, .int 0, .ref t9, .ref t10, .int 0, .ref t12, .ref t13, .ref t14, .ref t15, .int 0, .ref t17, .ref t18, .ref t19]))] sz) [(g, .inr (11, [.ref g0, .ref g1, .ref g2, .int 0, .ref g4, .ref g5, .ref g6, .ref g7, .ref g8, .ref g9, .ref g10, .ref g11, .ref g12])), (g1, .inr (10, [.int 0, .int 0, .int 0, .ref t3, .ref t4, .ref t5, .ref t6, .int 0, .int 0, .ref t9, .ref t10, .int 0, .ref t12, .ref t13, .ref t14, .ref t15, .int 0, .ref t17, .ref t18, .ref t19]))] tZ) (va_A [(g, .inr (11, [.ref g0, .ref g1, .ref g2, .int 0, .ref g4, .ref g5, .ref g6, .ref g7, .ref g8, .ref g9, .ref g10, .ref g11, .ref g12])), (g1, .inr (10, [.int 0, .int 0, .int 0, .ref t3, .ref t4, .ref t5, .ref t6, .int 0, .int 0, .ref t9, .ref t10, .int 0, .ref t12, .ref t13, .ref t14, .ref t15, .int 0, .ref t17, .ref t18, .ref t19]))] sz)) 0 0 (va_A [(g, .inr (11, [.ref g0, .ref g1, .ref g2, .int 0, .ref g4, .ref g5, .ref g6, .ref g7, .ref g8, .ref g9, .ref g10, .ref g11, .ref g12])), (g1, .inr (10, [.int 0, .int 0, .int 0, .ref t3, .ref t4, .ref t5, .ref t6, .int 0, .int 0, .ref t9, .ref t10, .int 0, .ref t12, .ref t13, .ref t14, .ref t15, .int 0, .ref t17, .ref t18, .ref t19]))] sz) := by
  refine Met.ofW (cc := cX11_places) (maxL := 2) (ret := (some .int)) (by decide +kernel) rfl ?_
  intro p e s m args below meth c s₁ B hml hv
  obtain ⟨rfl, hsz, hP, hK, hD0, hN⟩ := hv
  have hx := B.exec
  have hb := B.bytes
  have hr := B.returns
  have hts : ∀ w ∈ TT, w.before _ s = true := fun w h => atoms_spec (ws := ww yX11_places cX11_places 2 (some .int)) B.pre w (List.mem_cons_of_mem _ h)
  have hown : s.vm.findClass RX11 = some m.cls := findClass_of_methodNamed B.named
  have hlocks := B.notSynchronized
  subst hsz
  have hD := hD0.self (sz := s.heap.size)
  generalize hAe : va_A [(g, .inr (11, [.ref g0, .ref g1, .ref g2, .int 0, .ref g4, .ref g5, .ref g6, .ref g7, .ref g8, .ref g9, .ref g10, .ref g11, .ref g12])), (g1, .inr (10, [.int 0, .int 0, .int 0, .ref t3, .ref t4, .ref t5, .ref t6, .int 0, .int 0, .ref t9, .ref t10, .int 0, .ref t12, .ref t13, .ref t14, .ref t15, .int 0, .ref t17, .ref t18, .ref t19]))] s.heap.size = A at hD ⊢
  have hA : ∀ q : Nat, s.heap.size ≤ q → A q := fun q h => by rw [← hAe]; exact Or.inr h
  have hS : va_S A s.heap s.heap [] := va_S.rf
  have hl := lv_entry ([.ref g, .int p0]) (n := 2) (Nat.le_of_ble_eq_true rfl)
  rw [lg_entry_eq]
  generalize (lg_sl ([.ref g, .int p0]) ++ List.replicate (2 - (lg_sl ([.ref g, .int p0])).length) Slot.unset).toArray = ls at hl ⊢
  have hl : lv_has ls 2 [(0, .ref g), (1, .int p0)] := hl
  refine lv_aload_n hx hb dX11_places_0 rfl (lv_at hl 0 rfl) ?_
  have hPc := hP.sub (ws' := [(g, .inr (11, [.ref g0, .ref g1, .ref g2, .int 0, .ref g4, .ref g5, .ref g6, .ref g7, .ref g8, .ref g9, .ref g10, .ref g11, .ref g12])), (g1, .inr (10, [.int 0, .int 0, .int 0, .ref t3, .ref t4, .ref t5, .ref t6, .int 0, .int 0, .ref t9, .ref t10, .int 0, .ref t12, .ref t13, .ref t14, .ref t15, .int 0, .ref t17, .ref t18, .ref t19]))]) [0, 1] rfl
  have hDc := hD.sub (ws' := [(g, .inr (11, [.ref g0, .ref g1, .ref g2, .int 0, .ref g4, .ref g5, .ref g6, .ref g7, .ref g8, .ref g9, .ref g10, .ref g11, .ref g12])), (g1, .inr (10, [.int 0, .int 0, .int 0, .ref t3, .ref t4, .ref t5, .ref t6, .int 0, .int 0, .ref t9, .ref t10, .int 0, .ref t12, .ref t13, .ref t14, .ref t15, .int 0, .ref t17, .ref t18, .ref t19]))]) [0, 1] (by decide) rfl
  have hFc := va_free (wc := [(g, .inr (11, [.ref g0, .ref g1, .ref g2, .int 0, .ref g4, .ref g5, .ref g6, .ref g7, .ref g8, .ref g9, .ref g10, .ref g11, .ref g12])), (g1, .inr (10, [.int 0, .int 0, .int 0, .ref t3, .ref t4, .ref t5, .ref t6, .int 0, .int 0, .ref t9, .ref t10, .int 0, .ref t12, .ref t13, .ref t14, .ref t15, .int 0, .ref t17, .ref t18, .ref t19]))]) hD hS hA [0, 1] rfl
  refine va_calli (va_runV (C := RX11) (As := []) (rest := []) ⟨hx, hb, hml, hown, hts⟩ (c_X11_hasNoTown l D k g g0 g1 g2 g4 g5 g6 g7 g8 g9 g10 g11 g12 t3 t4 t5 t6 t9 t10 t12 t13 t14 t15 t17 t18 t19 s.heap.size) (cwV 0 hts (gV tw_3_235 tw_3_237 tw_p_23 tw_1_1 tw_3_238) rfl rfl rfl hdV_X11_hasNoTown ⟨Nat.le_of_ble_eq_true rfl, Nat.le_of_ble_eq_true rfl⟩) (cz_V hK hPc hDc hN (ci := 11) (q0 := 0) rfl rfl []) rfl rfl hl.1 rfl (lv_room (Nat.le_of_ble_eq_true rfl)) dX11_places_1 ⟨Nat.le_of_ble_eq_true rfl, Nat.le_of_ble_eq_true rfl⟩) hS (fun q _ h => hFc q h) hFc (fun r_1 uZ tZ H1 locs ht hvm hw hB hz1 hk1 hS => ?_)
  obtain ⟨hP1, hK1, hD1⟩ := hB
  rw [ht] at hP1
  obtain ⟨hP, hD⟩ := va_join (wr := []) (w1 := [(g, .inr (11, [.ref g0, .ref g1, .ref g2, .int 0, .ref g4, .ref g5, .ref g6, .ref g7, .ref g8, .ref g9, .ref g10, .ref g11, .ref g12])), (g1, .inr (10, [.int 0, .int 0, .int 0, .ref t3, .ref t4, .ref t5, .ref t6, .int 0, .int 0, .ref t9, .ref t10, .int 0, .ref t12, .ref t13, .ref t14, .ref t15, .int 0, .ref t17, .ref t18, .ref t19]))]) hP hD [0, 1] [] rfl rfl (by decide) (by decide) hk1 hFc hP1 hD1
  clear hK1 hP1 hD1 hPc hDc hFc
  clear hk1 hz1 ht hvm
  have hP : va_P D vwCl [(g, .inr (11, [.ref g0, .ref g1, .ref g2, .int 0, .ref g4, .ref g5, .ref g6, .ref g7, .ref g8, .ref g9, .ref g10, .ref g11, .ref g12])), (g1, .inr (10, [.int 0, .int 0, .int 0, .ref t3, .ref t4, .ref t5, .ref t6, .int 0, .int 0, .ref t9, .ref t10, .int 0, .ref t12, .ref t13, .ref t14, .ref t15, .int 0, .ref t17, .ref t18, .ref t19]))] H1 := hP
  have hD : va_D A [(g, .inr (11, [.ref g0, .ref g1, .ref g2, .int 0, .ref g4, .ref g5, .ref g6, .ref g7, .ref g8, .ref g9, .ref g10, .ref g11, .ref g12])), (g1, .inr (10, [.int 0, .int 0, .int 0, .ref t3, .ref t4, .ref t5, .ref t6, .int 0, .int 0, .ref t9, .ref t10, .int 0, .ref t12, .ref t13, .ref t14, .ref t15, .int 0, .ref t17, .ref t18, .ref t19]))] := hD
  generalize H1 = H at hP hS ⊢
  obtain rfl : r_1 = 1 := hw
  refine lv_if_ne (tgt := 14) hx hb dX11_places_4 (by decide) (fun _ => ?_) (fun c9 => absurd c9 (by decide))
  refine lv_bipush (v := (-2)) hx hb dX11_places_14 (by decide) ?_
  have hP9 := hP.sub (ws' := [(g, .inr (11, [.ref g0, .ref g1, .ref g2, .int 0, .ref g4, .ref g5, .ref g6, .ref g7, .ref g8, .ref g9, .ref g10, .ref g11, .ref g12])), (g1, .inr (10, [.int 0, .int 0, .int 0, .ref t3, .ref t4, .ref t5, .ref t6, .int 0, .int 0, .ref t9, .ref t10, .int 0, .ref t12, .ref t13, .ref t14, .ref t15, .int 0, .ref t17, .ref t18, .ref t19]))]) [0, 1] rfl
  have hD9 := hD.sub (ws' := [(g, .inr (11, [.ref g0, .ref g1, .ref g2, .int 0, .ref g4, .ref g5, .ref g6, .ref g7, .ref g8, .ref g9, .ref g10, .ref g11, .ref g12])), (g1, .inr (10, [.int 0, .int 0, .int 0, .ref t3, .ref t4, .ref t5, .ref t6, .int 0, .int 0, .ref t9, .ref t10, .int 0, .ref t12, .ref t13, .ref t14, .ref t15, .int 0, .ref t17, .ref t18, .ref t19]))]) [0, 1] (by decide) rfl
  exact W.iret (v := (-2)) hx hb hr (fun tZ ht hW => ⟨⟨(-2), (), rfl, rfl, by rw [ht]; exact hP9, va_K.moved hW.alike hK, hD9⟩, hS.F ht⟩) hS.2.2 dX11_places_16
set_option maxHeartbeats 4000000 in
set_option maxRecDepth 100000 in
theorem c_X11_soon (l : Launch) (D : va_G) (k : Nat → ClassId) (g : Nat) (g0 : Nat) (g1 : Nat) (g2 : Nat) (g4 : Nat) (g5 : Nat) (g6 : Nat) (g7 : Nat) (g8 : Nat) (g9 : Nat) (g10 : Nat) (g11 : Nat) (g12 : Nat) (t3 : Nat) (t4 : Nat) (t5 : Nat) (t6 : Nat) (t9 : Nat) (t10 : Nat) (t12 : Nat) (t13 : Nat) (t14 : Nat) (t15 : Nat) (t17 : Nat) (t18 : Nat) (t19 : Nat) (p0 : Int32) (sz : Nat) : Met l yX11_soon (ww yX11_soon cX11_soon 2 (some .int)) ({ frames := 1, cells := 0, slots := 0, locals := 20 }) (Pre0 D k [(g, .inr (11, [.ref g0, .ref g1, .ref g2, .int 0, .ref g4, .ref g5, .ref g6, .ref g7, .ref g8, .ref g9, .ref g10, .ref g11, .ref g12])), (g1, .inr (10, [.int 0, .int 0, .int 0, .ref t3, .ref t4, .ref t5, .ref t6, .int 0, .int 0, .ref t9, .ref t10, .int 0, .ref t12, .ref t13, .ref t14, .ref t15, .int 0, .ref t17, .ref t18, .ref t19]))] sz [.ref g, .int p0]) (va_Qi (fun (r : Int32) (_ : Unit) => r = (-2)) (fun (_ : Unit) tZ => Bw D k (va_A [(g, .inr (11, [.ref g0, .ref g1, .ref g2, .int 0, .ref g4, .ref g5, .ref g6, .ref g7, .ref g8, .ref g9, .ref g10, .ref g11, .ref g12])), (g1, .inr (10, [.int 0, .int 0, .int 0, .ref t3, .ref t4, .ref t5, .ref t6, .int 0, .int 0, .ref t9, .ref t10, .int 0, .ref t12, .ref t13, .ref t14, .ref t15, .int 0, .ref t17, .ref t18, .ref t19]))] sz) [(g, .inr (11, [.ref g0, .ref g1, .ref g2, .int 0, .ref g4, .ref g5, .ref g6, .ref g7, .ref g8, .ref g9, .ref g10, .ref g11, .ref g12])), (g1, .inr (10, [.int 0, .int 0, .int 0, .ref t3, .ref t4, .ref t5, .ref t6, .int 0, .int 0, .ref t9, .ref t10, .int 0, .ref t12, .ref t13, .ref t14, .ref t15, .int 0, .ref t17, .ref t18, .ref t19]))] tZ) (va_A [(g, .inr (11, [.ref g0, .ref g1, .ref g2, .int 0, .ref g4, .ref g5, .ref g6, .ref g7, .ref g8, .ref g9, .ref g10, .ref g11, .ref g12])), (g1, .inr (10, [.int 0, .int 0, .int 0, .ref t3, .ref t4, .ref t5, .ref t6, .int 0, .int 0, .ref t9, .ref t10, .int 0, .ref t12, .ref t13, .ref t14, .ref t15, .int 0, .ref t17, .ref t18, .ref t19]))] sz)) 0 0 (va_A [(g, .inr (11, [.ref g0, .ref g1, .ref g2, .int 0, .ref g4, .ref g5, .ref g6, .ref g7, .ref g8, .ref g9, .ref g10, .ref g11, .ref g12])), (g1, .inr (10, [.int 0, .int 0, .int 0, .ref t3, .ref t4, .ref t5, .ref t6, .int 0, .int 0, .ref t9, .ref t10, .int 0, .ref t12, .ref t13, .ref t14, .ref t15, .int 0, .ref t17, .ref t18, .ref t19]))] sz) := by
  refine Met.ofW (cc := cX11_soon) (maxL := 2) (ret := (some .int)) (by decide +kernel) rfl ?_
  intro p e s m args below meth c s₁ B hml hv
  obtain ⟨rfl, hsz, hP, hK, hD0, hN⟩ := hv
  have hx := B.exec
  have hb := B.bytes
  have hr := B.returns
  have hts : ∀ w ∈ TT, w.before _ s = true := fun w h => atoms_spec (ws := ww yX11_soon cX11_soon 2 (some .int)) B.pre w (List.mem_cons_of_mem _ h)
  have hown : s.vm.findClass RX11 = some m.cls := findClass_of_methodNamed B.named
  have hlocks := B.notSynchronized
  subst hsz
  have hD := hD0.self (sz := s.heap.size)
  generalize hAe : va_A [(g, .inr (11, [.ref g0, .ref g1, .ref g2, .int 0, .ref g4, .ref g5, .ref g6, .ref g7, .ref g8, .ref g9, .ref g10, .ref g11, .ref g12])), (g1, .inr (10, [.int 0, .int 0, .int 0, .ref t3, .ref t4, .ref t5, .ref t6, .int 0, .int 0, .ref t9, .ref t10, .int 0, .ref t12, .ref t13, .ref t14, .ref t15, .int 0, .ref t17, .ref t18, .ref t19]))] s.heap.size = A at hD ⊢
  have hA : ∀ q : Nat, s.heap.size ≤ q → A q := fun q h => by rw [← hAe]; exact Or.inr h
  have hS : va_S A s.heap s.heap [] := va_S.rf
  have hl := lv_entry ([.ref g, .int p0]) (n := 2) (Nat.le_of_ble_eq_true rfl)
  rw [lg_entry_eq]
  generalize (lg_sl ([.ref g, .int p0]) ++ List.replicate (2 - (lg_sl ([.ref g, .int p0])).length) Slot.unset).toArray = ls at hl ⊢
  have hl : lv_has ls 2 [(0, .ref g), (1, .int p0)] := hl
  refine lv_aload_n hx hb dX11_soon_0 rfl (lv_at hl 0 rfl) ?_
  have hPc := hP.sub (ws' := [(g, .inr (11, [.ref g0, .ref g1, .ref g2, .int 0, .ref g4, .ref g5, .ref g6, .ref g7, .ref g8, .ref g9, .ref g10, .ref g11, .ref g12])), (g1, .inr (10, [.int 0, .int 0, .int 0, .ref t3, .ref t4, .ref t5, .ref t6, .int 0, .int 0, .ref t9, .ref t10, .int 0, .ref t12, .ref t13, .ref t14, .ref t15, .int 0, .ref t17, .ref t18, .ref t19]))]) [0, 1] rfl
  have hDc := hD.sub (ws' := [(g, .inr (11, [.ref g0, .ref g1, .ref g2, .int 0, .ref g4, .ref g5, .ref g6, .ref g7, .ref g8, .ref g9, .ref g10, .ref g11, .ref g12])), (g1, .inr (10, [.int 0, .int 0, .int 0, .ref t3, .ref t4, .ref t5, .ref t6, .int 0, .int 0, .ref t9, .ref t10, .int 0, .ref t12, .ref t13, .ref t14, .ref t15, .int 0, .ref t17, .ref t18, .ref t19]))]) [0, 1] (by decide) rfl
  have hFc := va_free (wc := [(g, .inr (11, [.ref g0, .ref g1, .ref g2, .int 0, .ref g4, .ref g5, .ref g6, .ref g7, .ref g8, .ref g9, .ref g10, .ref g11, .ref g12])), (g1, .inr (10, [.int 0, .int 0, .int 0, .ref t3, .ref t4, .ref t5, .ref t6, .int 0, .int 0, .ref t9, .ref t10, .int 0, .ref t12, .ref t13, .ref t14, .ref t15, .int 0, .ref t17, .ref t18, .ref t19]))]) hD hS hA [0, 1] rfl
  refine va_calli (va_runV (C := RX11) (As := []) (rest := []) ⟨hx, hb, hml, hown, hts⟩ (c_X11_hasNoTown l D k g g0 g1 g2 g4 g5 g6 g7 g8 g9 g10 g11 g12 t3 t4 t5 t6 t9 t10 t12 t13 t14 t15 t17 t18 t19 s.heap.size) (cwV 0 hts (gV tw_3_235 tw_3_237 tw_p_23 tw_1_1 tw_3_238) rfl rfl rfl hdV_X11_hasNoTown ⟨Nat.le_of_ble_eq_true rfl, Nat.le_of_ble_eq_true rfl⟩) (cz_V hK hPc hDc hN (ci := 11) (q0 := 0) rfl rfl []) rfl rfl hl.1 rfl (lv_room (Nat.le_of_ble_eq_true rfl)) dX11_soon_1 ⟨Nat.le_of_ble_eq_true rfl, Nat.le_of_ble_eq_true rfl⟩) hS (fun q _ h => hFc q h) hFc (fun r_1 uZ tZ H1 locs ht hvm hw hB hz1 hk1 hS => ?_)
  obtain ⟨hP1, hK1, hD1⟩ := hB
  rw [ht] at hP1
  obtain ⟨hP, hD⟩ := va_join (wr := []) (w1 := [(g, .inr (11, [.ref g0, .ref g1, .ref g2, .int 0, .ref g4, .ref g5, .ref g6, .ref g7, .ref g8, .ref g9, .ref g10, .ref g11, .ref g12])), (g1, .inr (10, [.int 0, .int 0, .int 0, .ref t3, .ref t4, .ref t5, .ref t6, .int 0, .int 0, .ref t9, .ref t10, .int 0, .ref t12, .ref t13, .ref t14, .ref t15, .int 0, .ref t17, .ref t18, .ref t19]))]) hP hD [0, 1] [] rfl rfl (by decide) (by decide) hk1 hFc hP1 hD1
  clear hK1 hP1 hD1 hPc hDc hFc
  clear hk1 hz1 ht hvm
  have hP : va_P D vwCl [(g, .inr (11, [.ref g0, .ref g1, .ref g2, .int 0, .ref g4, .ref g5, .ref g6, .ref g7, .ref g8, .ref g9, .ref g10, .ref g11, .ref g12])), (g1, .inr (10, [.int 0, .int 0, .int 0, .ref t3, .ref t4, .ref t5, .ref t6, .int 0, .int 0, .ref t9, .ref t10, .int 0, .ref t12, .ref t13, .ref t14, .ref t15, .int 0, .ref t17, .ref t18, .ref t19]))] H1 := hP
  have hD : va_D A [(g, .inr (11, [.ref g0, .ref g1, .ref g2, .int 0, .ref g4, .ref g5, .ref g6, .ref g7, .ref g8, .ref g9, .ref g10, .ref g11, .ref g12])), (g1, .inr (10, [.int 0, .int 0, .int 0, .ref t3, .ref t4, .ref t5, .ref t6, .int 0, .int 0, .ref t9, .ref t10, .int 0, .ref t12, .ref t13, .ref t14, .ref t15, .int 0, .ref t17, .ref t18, .ref t19]))] := hD
  generalize H1 = H at hP hS ⊢
  obtain rfl : r_1 = 1 := hw
  refine lv_if_ne (tgt := 14) hx hb dX11_soon_4 (by decide) (fun _ => ?_) (fun c9 => absurd c9 (by decide))
  refine lv_bipush (v := (-2)) hx hb dX11_soon_14 (by decide) ?_
  have hP9 := hP.sub (ws' := [(g, .inr (11, [.ref g0, .ref g1, .ref g2, .int 0, .ref g4, .ref g5, .ref g6, .ref g7, .ref g8, .ref g9, .ref g10, .ref g11, .ref g12])), (g1, .inr (10, [.int 0, .int 0, .int 0, .ref t3, .ref t4, .ref t5, .ref t6, .int 0, .int 0, .ref t9, .ref t10, .int 0, .ref t12, .ref t13, .ref t14, .ref t15, .int 0, .ref t17, .ref t18, .ref t19]))]) [0, 1] rfl
  have hD9 := hD.sub (ws' := [(g, .inr (11, [.ref g0, .ref g1, .ref g2, .int 0, .ref g4, .ref g5, .ref g6, .ref g7, .ref g8, .ref g9, .ref g10, .ref g11, .ref g12])), (g1, .inr (10, [.int 0, .int 0, .int 0, .ref t3, .ref t4, .ref t5, .ref t6, .int 0, .int 0, .ref t9, .ref t10, .int 0, .ref t12, .ref t13, .ref t14, .ref t15, .int 0, .ref t17, .ref t18, .ref t19]))]) [0, 1] (by decide) rfl
  exact W.iret (v := (-2)) hx hb hr (fun tZ ht hW => ⟨⟨(-2), (), rfl, rfl, by rw [ht]; exact hP9, va_K.moved hW.alike hK, hD9⟩, hS.F ht⟩) hS.2.2 dX11_soon_16
set_option maxHeartbeats 4000000 in
set_option maxRecDepth 100000 in
theorem c_X11_carts (l : Launch) (D : va_G) (k : Nat → ClassId) (g : Nat) (g0 : Nat) (g1 : Nat) (g2 : Nat) (g4 : Nat) (g5 : Nat) (g6 : Nat) (g7 : Nat) (g8 : Nat) (g9 : Nat) (g10 : Nat) (g11 : Nat) (g12 : Nat) (t3 : Nat) (t4 : Nat) (t5 : Nat) (t6 : Nat) (t9 : Nat) (t10 : Nat) (t12 : Nat) (t13 : Nat) (t14 : Nat) (t15 : Nat) (t17 : Nat) (t18 : Nat) (t19 : Nat) (p0 : Int32) (sz : Nat) : Met l yX11_carts (ww yX11_carts cX11_carts 2 (some .int)) ({ frames := 1, cells := 0, slots := 0, locals := 20 }) (Pre0 D k [(g, .inr (11, [.ref g0, .ref g1, .ref g2, .int 0, .ref g4, .ref g5, .ref g6, .ref g7, .ref g8, .ref g9, .ref g10, .ref g11, .ref g12])), (g1, .inr (10, [.int 0, .int 0, .int 0, .ref t3, .ref t4, .ref t5, .ref t6, .int 0, .int 0, .ref t9, .ref t10, .int 0, .ref t12, .ref t13, .ref t14, .ref t15, .int 0, .ref t17, .ref t18, .ref t19]))] sz [.ref g, .int p0]) (va_Qi (fun (r : Int32) (_ : Unit) => r = (-2)) (fun (_ : Unit) tZ => Bw D k (va_A [(g, .inr (11, [.ref g0, .ref g1, .ref g2, .int 0, .ref g4, .ref g5, .ref g6, .ref g7, .ref g8, .ref g9, .ref g10, .ref g11, .ref g12])), (g1, .inr (10, [.int 0, .int 0, .int 0, .ref t3, .ref t4, .ref t5, .ref t6, .int 0, .int 0, .ref t9, .ref t10, .int 0, .ref t12, .ref t13, .ref t14, .ref t15, .int 0, .ref t17, .ref t18, .ref t19]))] sz) [(g, .inr (11, [.ref g0, .ref g1, .ref g2, .int 0, .ref g4, .ref g5, .ref g6, .ref g7, .ref g8, .ref g9, .ref g10, .ref g11, .ref g12])), (g1, .inr (10, [.int 0, .int 0, .int 0, .ref t3, .ref t4, .ref t5, .ref t6, .int 0, .int 0, .ref t9, .ref t10, .int 0, .ref t12, .ref t13, .ref t14, .ref t15, .int 0, .ref t17, .ref t18, .ref t19]))] tZ) (va_A [(g, .inr (11, [.ref g0, .ref g1, .ref g2, .int 0, .ref g4, .ref g5, .ref g6, .ref g7, .ref g8, .ref g9, .ref g10, .ref g11, .ref g12])), (g1, .inr (10, [.int 0, .int 0, .int 0, .ref t3, .ref t4, .ref t5, .ref t6, .int 0, .int 0, .ref t9, .ref t10, .int 0, .ref t12, .ref t13, .ref t14, .ref t15, .int 0, .ref t17, .ref t18, .ref t19]))] sz)) 0 0 (va_A [(g, .inr (11, [.ref g0, .ref g1, .ref g2, .int 0, .ref g4, .ref g5, .ref g6, .ref g7, .ref g8, .ref g9, .ref g10, .ref g11, .ref g12])), (g1, .inr (10, [.int 0, .int 0, .int 0, .ref t3, .ref t4, .ref t5, .ref t6, .int 0, .int 0, .ref t9, .ref t10, .int 0, .ref t12, .ref t13, .ref t14, .ref t15, .int 0, .ref t17, .ref t18, .ref t19]))] sz) := by
  refine Met.ofW (cc := cX11_carts) (maxL := 2) (ret := (some .int)) (by decide +kernel) rfl ?_
  intro p e s m args below meth c s₁ B hml hv
  obtain ⟨rfl, hsz, hP, hK, hD0, hN⟩ := hv
  have hx := B.exec
  have hb := B.bytes
  have hr := B.returns
  have hts : ∀ w ∈ TT, w.before _ s = true := fun w h => atoms_spec (ws := ww yX11_carts cX11_carts 2 (some .int)) B.pre w (List.mem_cons_of_mem _ h)
  have hown : s.vm.findClass RX11 = some m.cls := findClass_of_methodNamed B.named
  have hlocks := B.notSynchronized
  subst hsz
  have hD := hD0.self (sz := s.heap.size)
  generalize hAe : va_A [(g, .inr (11, [.ref g0, .ref g1, .ref g2, .int 0, .ref g4, .ref g5, .ref g6, .ref g7, .ref g8, .ref g9, .ref g10, .ref g11, .ref g12])), (g1, .inr (10, [.int 0, .int 0, .int 0, .ref t3, .ref t4, .ref t5, .ref t6, .int 0, .int 0, .ref t9, .ref t10, .int 0, .ref t12, .ref t13, .ref t14, .ref t15, .int 0, .ref t17, .ref t18, .ref t19]))] s.heap.size = A at hD ⊢
  have hA : ∀ q : Nat, s.heap.size ≤ q → A q := fun q h => by rw [← hAe]; exact Or.inr h
  have hS : va_S A s.heap s.heap [] := va_S.rf
  have hl := lv_entry ([.ref g, .int p0]) (n := 2) (Nat.le_of_ble_eq_true rfl)
  rw [lg_entry_eq]
  generalize (lg_sl ([.ref g, .int p0]) ++ List.replicate (2 - (lg_sl ([.ref g, .int p0])).length) Slot.unset).toArray = ls at hl ⊢
  have hl : lv_has ls 2 [(0, .ref g), (1, .int p0)] := hl
  refine lv_aload_n hx hb dX11_carts_0 rfl (lv_at hl 0 rfl) ?_
  have hPc := hP.sub (ws' := [(g, .inr (11, [.ref g0, .ref g1, .ref g2, .int 0, .ref g4, .ref g5, .ref g6, .ref g7, .ref g8, .ref g9, .ref g10, .ref g11, .ref g12])), (g1, .inr (10, [.int 0, .int 0, .int 0, .ref t3, .ref t4, .ref t5, .ref t6, .int 0, .int 0, .ref t9, .ref t10, .int 0, .ref t12, .ref t13, .ref t14, .ref t15, .int 0, .ref t17, .ref t18, .ref t19]))]) [0, 1] rfl
  have hDc := hD.sub (ws' := [(g, .inr (11, [.ref g0, .ref g1, .ref g2, .int 0, .ref g4, .ref g5, .ref g6, .ref g7, .ref g8, .ref g9, .ref g10, .ref g11, .ref g12])), (g1, .inr (10, [.int 0, .int 0, .int 0, .ref t3, .ref t4, .ref t5, .ref t6, .int 0, .int 0, .ref t9, .ref t10, .int 0, .ref t12, .ref t13, .ref t14, .ref t15, .int 0, .ref t17, .ref t18, .ref t19]))]) [0, 1] (by decide) rfl
  have hFc := va_free (wc := [(g, .inr (11, [.ref g0, .ref g1, .ref g2, .int 0, .ref g4, .ref g5, .ref g6, .ref g7, .ref g8, .ref g9, .ref g10, .ref g11, .ref g12])), (g1, .inr (10, [.int 0, .int 0, .int 0, .ref t3, .ref t4, .ref t5, .ref t6, .int 0, .int 0, .ref t9, .ref t10, .int 0, .ref t12, .ref t13, .ref t14, .ref t15, .int 0, .ref t17, .ref t18, .ref t19]))]) hD hS hA [0, 1] rfl
  refine va_calli (va_runV (C := RX11) (As := []) (rest := []) ⟨hx, hb, hml, hown, hts⟩ (c_X11_hasNoTown l D k g g0 g1 g2 g4 g5 g6 g7 g8 g9 g10 g11 g12 t3 t4 t5 t6 t9 t10 t12 t13 t14 t15 t17 t18 t19 s.heap.size) (cwV 0 hts (gV tw_3_235 tw_3_237 tw_p_23 tw_1_1 tw_3_238) rfl rfl rfl hdV_X11_hasNoTown ⟨Nat.le_of_ble_eq_true rfl, Nat.le_of_ble_eq_true rfl⟩) (cz_V hK hPc hDc hN (ci := 11) (q0 := 0) rfl rfl []) rfl rfl hl.1 rfl (lv_room (Nat.le_of_ble_eq_true rfl)) dX11_carts_1 ⟨Nat.le_of_ble_eq_true rfl, Nat.le_of_ble_eq_true rfl⟩) hS (fun q _ h => hFc q h) hFc (fun r_1 uZ tZ H1 locs ht hvm hw hB hz1 hk1 hS => ?_)
  obtain ⟨hP1, hK1, hD1⟩ := hB
  rw [ht] at hP1
  obtain ⟨hP, hD⟩ := va_join (wr := []) (w1 := [(g, .inr (11, [.ref g0, .ref g1, .ref g2, .int 0, .ref g4, .ref g5, .ref g6, .ref g7, .ref g8, .ref g9, .ref g10, .ref g11, .ref g12])), (g1, .inr (10, [.int 0, .int 0, .int 0, .ref t3, .ref t4, .ref t5, .ref t6, .int 0, .int 0, .ref t9, .ref t10, .int 0, .ref t12, .ref t13, .ref t14, .ref t15, .int 0, .ref t17, .ref t18, .ref t19]))]) hP hD [0, 1] [] rfl rfl (by decide) (by decide) hk1 hFc hP1 hD1
  clear hK1 hP1 hD1 hPc hDc hFc
  clear hk1 hz1 ht hvm
  have hP : va_P D vwCl [(g, .inr (11, [.ref g0, .ref g1, .ref g2, .int 0, .ref g4, .ref g5, .ref g6, .ref g7, .ref g8, .ref g9, .ref g10, .ref g11, .ref g12])), (g1, .inr (10, [.int 0, .int 0, .int 0, .ref t3, .ref t4, .ref t5, .ref t6, .int 0, .int 0, .ref t9, .ref t10, .int 0, .ref t12, .ref t13, .ref t14, .ref t15, .int 0, .ref t17, .ref t18, .ref t19]))] H1 := hP
  have hD : va_D A [(g, .inr (11, [.ref g0, .ref g1, .ref g2, .int 0, .ref g4, .ref g5, .ref g6, .ref g7, .ref g8, .ref g9, .ref g10, .ref g11, .ref g12])), (g1, .inr (10, [.int 0, .int 0, .int 0, .ref t3, .ref t4, .ref t5, .ref t6, .int 0, .int 0, .ref t9, .ref t10, .int 0, .ref t12, .ref t13, .ref t14, .ref t15, .int 0, .ref t17, .ref t18, .ref t19]))] := hD
  generalize H1 = H at hP hS ⊢
  obtain rfl : r_1 = 1 := hw
  refine lv_if_ne (tgt := 14) hx hb dX11_carts_4 (by decide) (fun _ => ?_) (fun c9 => absurd c9 (by decide))
  refine lv_bipush (v := (-2)) hx hb dX11_carts_14 (by decide) ?_
  have hP9 := hP.sub (ws' := [(g, .inr (11, [.ref g0, .ref g1, .ref g2, .int 0, .ref g4, .ref g5, .ref g6, .ref g7, .ref g8, .ref g9, .ref g10, .ref g11, .ref g12])), (g1, .inr (10, [.int 0, .int 0, .int 0, .ref t3, .ref t4, .ref t5, .ref t6, .int 0, .int 0, .ref t9, .ref t10, .int 0, .ref t12, .ref t13, .ref t14, .ref t15, .int 0, .ref t17, .ref t18, .ref t19]))]) [0, 1] rfl
  have hD9 := hD.sub (ws' := [(g, .inr (11, [.ref g0, .ref g1, .ref g2, .int 0, .ref g4, .ref g5, .ref g6, .ref g7, .ref g8, .ref g9, .ref g10, .ref g11, .ref g12])), (g1, .inr (10, [.int 0, .int 0, .int 0, .ref t3, .ref t4, .ref t5, .ref t6, .int 0, .int 0, .ref t9, .ref t10, .int 0, .ref t12, .ref t13, .ref t14, .ref t15, .int 0, .ref t17, .ref t18, .ref t19]))]) [0, 1] (by decide) rfl
  exact W.iret (v := (-2)) hx hb hr (fun tZ ht hW => ⟨⟨(-2), (), rfl, rfl, by rw [ht]; exact hP9, va_K.moved hW.alike hK, hD9⟩, hS.F ht⟩) hS.2.2 dX11_carts_16
set_option maxHeartbeats 4000000 in
set_option maxRecDepth 100000 in
theorem c_X11_cart (l : Launch) (D : va_G) (k : Nat → ClassId) (g : Nat) (g0 : Nat) (g1 : Nat) (g2 : Nat) (g4 : Nat) (g5 : Nat) (g6 : Nat) (g7 : Nat) (g8 : Nat) (g9 : Nat) (g10 : Nat) (g11 : Nat) (g12 : Nat) (t3 : Nat) (t4 : Nat) (t5 : Nat) (t6 : Nat) (t9 : Nat) (t10 : Nat) (t12 : Nat) (t13 : Nat) (t14 : Nat) (t15 : Nat) (t17 : Nat) (t18 : Nat) (t19 : Nat) (p0 : Int32) (p1 : Int32) (sz : Nat) : Met l yX11_cart (ww yX11_cart cX11_cart 4 (some .int)) ({ frames := 1, cells := 0, slots := 0, locals := 20 }) (Pre0 D k [(g, .inr (11, [.ref g0, .ref g1, .ref g2, .int 0, .ref g4, .ref g5, .ref g6, .ref g7, .ref g8, .ref g9, .ref g10, .ref g11, .ref g12])), (g1, .inr (10, [.int 0, .int 0, .int 0, .ref t3, .ref t4, .ref t5, .ref t6, .int 0, .int 0, .ref t9, .ref t10, .int 0, .ref t12, .ref t13, .ref t14, .ref t15, .int 0, .ref t17, .ref t18, .ref t19]))] sz [.ref g, .int p0, .int p1]) (va_Qi (fun (r : Int32) (_ : Unit) => r = (-2)) (fun (_ : Unit) tZ => Bw D k (va_A [(g, .inr (11, [.ref g0, .ref g1, .ref g2, .int 0, .ref g4, .ref g5, .ref g6, .ref g7, .ref g8, .ref g9, .ref g10, .ref g11, .ref g12])), (g1, .inr (10, [.int 0, .int 0, .int 0, .ref t3, .ref t4, .ref t5, .ref t6, .int 0, .int 0, .ref t9, .ref t10, .int 0, .ref t12, .ref t13, .ref t14, .ref t15, .int 0, .ref t17, .ref t18, .ref t19]))] sz) [(g, .inr (11, [.ref g0, .ref g1, .ref g2, .int 0, .ref g4, .ref g5, .ref g6, .ref g7, .ref g8, .ref g9, .ref g10, .ref g11, .ref g12])), (g1, .inr (10, [.int 0, .int 0, .int 0, .ref t3, .ref t4, .ref t5, .ref t6, .int 0, .int 0, .ref t9, .ref t10, .int 0, .ref t12, .ref t13, .ref t14, .ref t15, .int 0, .ref t17, .ref t18, .ref t19]))] tZ) (va_A [(g, .inr (11, [.ref g0, .ref g1, .ref g2, .int 0, .ref g4, .ref g5, .ref g6, .ref g7, .ref g8, .ref g9, .ref g10, .ref g11, .ref g12])), (g1, .inr (10, [.int 0, .int 0, .int 0, .ref t3, .ref t4, .ref t5, .ref t6, .int 0, .int 0, .ref t9, .ref t10, .int 0, .ref t12, .ref t13, .ref t14, .ref t15, .int 0, .ref t17, .ref t18, .ref t19]))] sz)) 0 0 (va_A [(g, .inr (11, [.ref g0, .ref g1, .ref g2, .int 0, .ref g4, .ref g5, .ref g6, .ref g7, .ref g8, .ref g9, .ref g10, .ref g11, .ref g12])), (g1, .inr (10, [.int 0, .int 0, .int 0, .ref t3, .ref t4, .ref t5, .ref t6, .int 0, .int 0, .ref t9, .ref t10, .int 0, .ref t12, .ref t13, .ref t14, .ref t15, .int 0, .ref t17, .ref t18, .ref t19]))] sz) := by
  refine Met.ofW (cc := cX11_cart) (maxL := 4) (ret := (some .int)) (by decide +kernel) rfl ?_
  intro p e s m args below meth c s₁ B hml hv
  obtain ⟨rfl, hsz, hP, hK, hD0, hN⟩ := hv
  have hx := B.exec
  have hb := B.bytes
  have hr := B.returns
  have hts : ∀ w ∈ TT, w.before _ s = true := fun w h => atoms_spec (ws := ww yX11_cart cX11_cart 4 (some .int)) B.pre w (List.mem_cons_of_mem _ h)
  have hown : s.vm.findClass RX11 = some m.cls := findClass_of_methodNamed B.named
  have hlocks := B.notSynchronized
  subst hsz
  have hD := hD0.self (sz := s.heap.size)
  generalize hAe : va_A [(g, .inr (11, [.ref g0, .ref g1, .ref g2, .int 0, .ref g4, .ref g5, .ref g6, .ref g7, .ref g8, .ref g9, .ref g10, .ref g11, .ref g12])), (g1, .inr (10, [.int 0, .int 0, .int 0, .ref t3, .ref t4, .ref t5, .ref t6, .int 0, .int 0, .ref t9, .ref t10, .int 0, .ref t12, .ref t13, .ref t14, .ref t15, .int 0, .ref t17, .ref t18, .ref t19]))] s.heap.size = A at hD ⊢
  have hA : ∀ q : Nat, s.heap.size ≤ q → A q := fun q h => by rw [← hAe]; exact Or.inr h
  have hS : va_S A s.heap s.heap [] := va_S.rf
  have hl := lv_entry ([.ref g, .int p0, .int p1]) (n := 4) (Nat.le_of_ble_eq_true rfl)
  rw [lg_entry_eq]
  generalize (lg_sl ([.ref g, .int p0, .int p1]) ++ List.replicate (4 - (lg_sl ([.ref g, .int p0, .int p1])).length) Slot.unset).toArray = ls at hl ⊢
  have hl : lv_has ls 4 [(0, .ref g), (1, .int p0), (2, .int p1)] := hl
  refine lv_aload_n hx hb dX11_cart_0 rfl (lv_at hl 0 rfl) ?_
  have hPc := hP.sub (ws' := [(g, .inr (11, [.ref g0, .ref g1, .ref g2, .int 0, .ref g4, .ref g5, .ref g6, .ref g7, .ref g8, .ref g9, .ref g10, .ref g11, .ref g12])), (g1, .inr (10, [.int 0, .int 0, .int 0, .ref t3, .ref t4, .ref t5, .ref t6, .int 0, .int 0, .ref t9, .ref t10, .int 0, .ref t12, .ref t13, .ref t14, .ref t15, .int 0, .ref t17, .ref t18, .ref t19]))]) [0, 1] rfl
  have hDc := hD.sub (ws' := [(g, .inr (11, [.ref g0, .ref g1, .ref g2, .int 0, .ref g4, .ref g5, .ref g6, .ref g7, .ref g8, .ref g9, .ref g10, .ref g11, .ref g12])), (g1, .inr (10, [.int 0, .int 0, .int 0, .ref t3, .ref t4, .ref t5, .ref t6, .int 0, .int 0, .ref t9, .ref t10, .int 0, .ref t12, .ref t13, .ref t14, .ref t15, .int 0, .ref t17, .ref t18, .ref t19]))]) [0, 1] (by decide) rfl
  have hFc := va_free (wc := [(g, .inr (11, [.ref g0, .ref g1, .ref g2, .int 0, .ref g4, .ref g5, .ref g6, .ref g7, .ref g8, .ref g9, .ref g10, .ref g11, .ref g12])), (g1, .inr (10, [.int 0, .int 0, .int 0, .ref t3, .ref t4, .ref t5, .ref t6, .int 0, .int 0, .ref t9, .ref t10, .int 0, .ref t12, .ref t13, .ref t14, .ref t15, .int 0, .ref t17, .ref t18, .ref t19]))]) hD hS hA [0, 1] rfl
  refine va_calli (va_runV (C := RX11) (As := []) (rest := []) ⟨hx, hb, hml, hown, hts⟩ (c_X11_hasNoTown l D k g g0 g1 g2 g4 g5 g6 g7 g8 g9 g10 g11 g12 t3 t4 t5 t6 t9 t10 t12 t13 t14 t15 t17 t18 t19 s.heap.size) (cwV 0 hts (gV tw_3_235 tw_3_237 tw_p_23 tw_1_1 tw_3_238) rfl rfl rfl hdV_X11_hasNoTown ⟨Nat.le_of_ble_eq_true rfl, Nat.le_of_ble_eq_true rfl⟩) (cz_V hK hPc hDc hN (ci := 11) (q0 := 0) rfl rfl []) rfl rfl hl.1 rfl (lv_room (Nat.le_of_ble_eq_true rfl)) dX11_cart_1 ⟨Nat.le_of_ble_eq_true rfl, Nat.le_of_ble_eq_true rfl⟩) hS (fun q _ h => hFc q h) hFc (fun r_1 uZ tZ H1 locs ht hvm hw hB hz1 hk1 hS => ?_)
  obtain ⟨hP1, hK1, hD1⟩ := hB
  rw [ht] at hP1
  obtain ⟨hP, hD⟩ := va_join (wr := []) (w1 := [(g, .inr (11, [.ref g0, .ref g1, .ref g2, .int 0, .ref g4, .ref g5, .ref g6, .ref g7, .ref g8, .ref g9, .ref g10, .ref g11, .ref g12])), (g1, .inr (10, [.int 0, .int 0, .int 0, .ref t3, .ref t4, .ref t5, .ref t6, .int 0, .int 0, .ref t9, .ref t10, .int 0, .ref t12, .ref t13, .ref t14, .ref t15, .int 0, .ref t17, .ref t18, .ref t19]))]) hP hD [0, 1] [] rfl rfl (by decide) (by decide) hk1 hFc hP1 hD1
  clear hK1 hP1 hD1 hPc hDc hFc
  clear hk1 hz1 ht hvm
  have hP : va_P D vwCl [(g, .inr (11, [.ref g0, .ref g1, .ref g2, .int 0, .ref g4, .ref g5, .ref g6, .ref g7, .ref g8, .ref g9, .ref g10, .ref g11, .ref g12])), (g1, .inr (10, [.int 0, .int 0, .int 0, .ref t3, .ref t4, .ref t5, .ref t6, .int 0, .int 0, .ref t9, .ref t10, .int 0, .ref t12, .ref t13, .ref t14, .ref t15, .int 0, .ref t17, .ref t18, .ref t19]))] H1 := hP
  have hD : va_D A [(g, .inr (11, [.ref g0, .ref g1, .ref g2, .int 0, .ref g4, .ref g5, .ref g6, .ref g7, .ref g8, .ref g9, .ref g10, .ref g11, .ref g12])), (g1, .inr (10, [.int 0, .int 0, .int 0, .ref t3, .ref t4, .ref t5, .ref t6, .int 0, .int 0, .ref t9, .ref t10, .int 0, .ref t12, .ref t13, .ref t14, .ref t15, .int 0, .ref t17, .ref t18, .ref t19]))] := hD
  generalize H1 = H at hP hS ⊢
  obtain rfl : r_1 = 1 := hw
  refine lv_if_ne (tgt := 14) hx hb dX11_cart_4 (by decide) (fun _ => ?_) (fun c9 => absurd c9 (by decide))
  refine lv_bipush (v := (-2)) hx hb dX11_cart_14 (by decide) ?_
  have hP9 := hP.sub (ws' := [(g, .inr (11, [.ref g0, .ref g1, .ref g2, .int 0, .ref g4, .ref g5, .ref g6, .ref g7, .ref g8, .ref g9, .ref g10, .ref g11, .ref g12])), (g1, .inr (10, [.int 0, .int 0, .int 0, .ref t3, .ref t4, .ref t5, .ref t6, .int 0, .int 0, .ref t9, .ref t10, .int 0, .ref t12, .ref t13, .ref t14, .ref t15, .int 0, .ref t17, .ref t18, .ref t19]))]) [0, 1] rfl
  have hD9 := hD.sub (ws' := [(g, .inr (11, [.ref g0, .ref g1, .ref g2, .int 0, .ref g4, .ref g5, .ref g6, .ref g7, .ref g8, .ref g9, .ref g10, .ref g11, .ref g12])), (g1, .inr (10, [.int 0, .int 0, .int 0, .ref t3, .ref t4, .ref t5, .ref t6, .int 0, .int 0, .ref t9, .ref t10, .int 0, .ref t12, .ref t13, .ref t14, .ref t15, .int 0, .ref t17, .ref t18, .ref t19]))]) [0, 1] (by decide) rfl
  exact W.iret (v := (-2)) hx hb hr (fun tZ ht hW => ⟨⟨(-2), (), rfl, rfl, by rw [ht]; exact hP9, va_K.moved hW.alike hK, hD9⟩, hS.F ht⟩) hS.2.2 dX11_cart_16
set_option maxHeartbeats 4000000 in
set_option maxRecDepth 100000 in
theorem c_X11_wins (l : Launch) (D : va_G) (k : Nat → ClassId) (g : Nat) (g0 : Nat) (g1 : Nat) (g2 : Nat) (g4 : Nat) (g5 : Nat) (g6 : Nat) (g7 : Nat) (g8 : Nat) (g9 : Nat) (g10 : Nat) (g11 : Nat) (g12 : Nat) (t3 : Nat) (t4 : Nat) (t5 : Nat) (t6 : Nat) (t9 : Nat) (t10 : Nat) (t12 : Nat) (t13 : Nat) (t14 : Nat) (t15 : Nat) (t17 : Nat) (t18 : Nat) (t19 : Nat) (sz : Nat) : Met l yX11_wins (ww yX11_wins cX11_wins 1 (some .int)) ({ frames := 1, cells := 0, slots := 0, locals := 20 }) (Pre0 D k [(g, .inr (11, [.ref g0, .ref g1, .ref g2, .int 0, .ref g4, .ref g5, .ref g6, .ref g7, .ref g8, .ref g9, .ref g10, .ref g11, .ref g12])), (g1, .inr (10, [.int 0, .int 0, .int 0, .ref t3, .ref t4, .ref t5, .ref t6, .int 0, .int 0, .ref t9, .ref t10, .int 0, .ref t12, .ref t13, .ref t14, .ref t15, .int 0, .ref t17, .ref t18, .ref t19]))] sz [.ref g]) (va_Qi (fun (r : Int32) (_ : Unit) => r = (-2)) (fun (_ : Unit) tZ => Bw D k (va_A [(g, .inr (11, [.ref g0, .ref g1, .ref g2, .int 0, .ref g4, .ref g5, .ref g6, .ref g7, .ref g8, .ref g9, .ref g10, .ref g11, .ref g12])), (g1, .inr (10, [.int 0, .int 0, .int 0, .ref t3, .ref t4, .ref t5, .ref t6, .int 0, .int 0, .ref t9, .ref t10, .int 0, .ref t12, .ref t13, .ref t14, .ref t15, .int 0, .ref t17, .ref t18, .ref t19]))] sz) [(g, .inr (11, [.ref g0, .ref g1, .ref g2, .int 0, .ref g4, .ref g5, .ref g6, .ref g7, .ref g8, .ref g9, .ref g10, .ref g11, .ref g12])), (g1, .inr (10, [.int 0, .int 0, .int 0, .ref t3, .ref t4, .ref t5, .ref t6, .int 0, .int 0, .ref t9, .ref t10, .int 0, .ref t12, .ref t13, .ref t14, .ref t15, .int 0, .ref t17, .ref t18, .ref t19]))] tZ) (va_A [(g, .inr (11, [.ref g0, .ref g1, .ref g2, .int 0, .ref g4, .ref g5, .ref g6, .ref g7, .ref g8, .ref g9, .ref g10, .ref g11, .ref g12])), (g1, .inr (10, [.int 0, .int 0, .int 0, .ref t3, .ref t4, .ref t5, .ref t6, .int 0, .int 0, .ref t9, .ref t10, .int 0, .ref t12, .ref t13, .ref t14, .ref t15, .int 0, .ref t17, .ref t18, .ref t19]))] sz)) 0 0 (va_A [(g, .inr (11, [.ref g0, .ref g1, .ref g2, .int 0, .ref g4, .ref g5, .ref g6, .ref g7, .ref g8, .ref g9, .ref g10, .ref g11, .ref g12])), (g1, .inr (10, [.int 0, .int 0, .int 0, .ref t3, .ref t4, .ref t5, .ref t6, .int 0, .int 0, .ref t9, .ref t10, .int 0, .ref t12, .ref t13, .ref t14, .ref t15, .int 0, .ref t17, .ref t18, .ref t19]))] sz) := by
  refine Met.ofW (cc := cX11_wins) (maxL := 1) (ret := (some .int)) (by decide +kernel) rfl ?_
  intro p e s m args below meth c s₁ B hml hv
  obtain ⟨rfl, hsz, hP, hK, hD0, hN⟩ := hv
  have hx := B.exec
  have hb := B.bytes
  have hr := B.returns
  have hts : ∀ w ∈ TT, w.before _ s = true := fun w h => atoms_spec (ws := ww yX11_wins cX11_wins 1 (some .int)) B.pre w (List.mem_cons_of_mem _ h)
  have hown : s.vm.findClass RX11 = some m.cls := findClass_of_methodNamed B.named
  have hlocks := B.notSynchronized
  subst hsz
  have hD := hD0.self (sz := s.heap.size)
  generalize hAe : va_A [(g, .inr (11, [.ref g0, .ref g1, .ref g2, .int 0, .ref g4, .ref g5, .ref g6, .ref g7, .ref g8, .ref g9, .ref g10, .ref g11, .ref g12])), (g1, .inr (10, [.int 0, .int 0, .int 0, .ref t3, .ref t4, .ref t5, .ref t6, .int 0, .int 0, .ref t9, .ref t10, .int 0, .ref t12, .ref t13, .ref t14, .ref t15, .int 0, .ref t17, .ref t18, .ref t19]))] s.heap.size = A at hD ⊢
  have hA : ∀ q : Nat, s.heap.size ≤ q → A q := fun q h => by rw [← hAe]; exact Or.inr h
  have hS : va_S A s.heap s.heap [] := va_S.rf
  have hl := lv_entry ([.ref g]) (n := 1) (Nat.le_of_ble_eq_true rfl)
  rw [lg_entry_eq]
  generalize (lg_sl ([.ref g]) ++ List.replicate (1 - (lg_sl ([.ref g])).length) Slot.unset).toArray = ls at hl ⊢
  have hl : lv_has ls 1 [(0, .ref g)] := hl
  refine lv_aload_n hx hb dX11_wins_0 rfl (lv_at hl 0 rfl) ?_
  have hPc := hP.sub (ws' := [(g, .inr (11, [.ref g0, .ref g1, .ref g2, .int 0, .ref g4, .ref g5, .ref g6, .ref g7, .ref g8, .ref g9, .ref g10, .ref g11, .ref g12])), (g1, .inr (10, [.int 0, .int 0, .int 0, .ref t3, .ref t4, .ref t5, .ref t6, .int 0, .int 0, .ref t9, .ref t10, .int 0, .ref t12, .ref t13, .ref t14, .ref t15, .int 0, .ref t17, .ref t18, .ref t19]))]) [0, 1] rfl
  have hDc := hD.sub (ws' := [(g, .inr (11, [.ref g0, .ref g1, .ref g2, .int 0, .ref g4, .ref g5, .ref g6, .ref g7, .ref g8, .ref g9, .ref g10, .ref g11, .ref g12])), (g1, .inr (10, [.int 0, .int 0, .int 0, .ref t3, .ref t4, .ref t5, .ref t6, .int 0, .int 0, .ref t9, .ref t10, .int 0, .ref t12, .ref t13, .ref t14, .ref t15, .int 0, .ref t17, .ref t18, .ref t19]))]) [0, 1] (by decide) rfl
  have hFc := va_free (wc := [(g, .inr (11, [.ref g0, .ref g1, .ref g2, .int 0, .ref g4, .ref g5, .ref g6, .ref g7, .ref g8, .ref g9, .ref g10, .ref g11, .ref g12])), (g1, .inr (10, [.int 0, .int 0, .int 0, .ref t3, .ref t4, .ref t5, .ref t6, .int 0, .int 0, .ref t9, .ref t10, .int 0, .ref t12, .ref t13, .ref t14, .ref t15, .int 0, .ref t17, .ref t18, .ref t19]))]) hD hS hA [0, 1] rfl
  refine va_calli (va_runV (C := RX11) (As := []) (rest := []) ⟨hx, hb, hml, hown, hts⟩ (c_X11_hasNoTown l D k g g0 g1 g2 g4 g5 g6 g7 g8 g9 g10 g11 g12 t3 t4 t5 t6 t9 t10 t12 t13 t14 t15 t17 t18 t19 s.heap.size) (cwV 0 hts (gV tw_3_235 tw_3_237 tw_p_23 tw_1_1 tw_3_238) rfl rfl rfl hdV_X11_hasNoTown ⟨Nat.le_of_ble_eq_true rfl, Nat.le_of_ble_eq_true rfl⟩) (cz_V hK hPc hDc hN (ci := 11) (q0 := 0) rfl rfl []) rfl rfl hl.1 rfl (lv_room (Nat.le_of_ble_eq_true rfl)) dX11_wins_1 ⟨Nat.le_of_ble_eq_true rfl, Nat.le_of_ble_eq_true rfl⟩) hS (fun q _ h => hFc q h) hFc (fun r_1 uZ tZ H1 locs ht hvm hw hB hz1 hk1 hS => ?_)
  obtain ⟨hP1, hK1, hD1⟩ := hB
  rw [ht] at hP1
  obtain ⟨hP, hD⟩ := va_join (wr := []) (w1 := [(g, .inr (11, [.ref g0, .ref g1, .ref g2, .int 0, .ref g4, .ref g5, .ref g6, .ref g7, .ref g8, .ref g9, .ref g10, .ref g11, .ref g12])), (g1, .inr (10, [.int 0, .int 0, .int 0, .ref t3, .ref t4, .ref t5, .ref t6, .int 0, .int 0, .ref t9, .ref t10, .int 0, .ref t12, .ref t13, .ref t14, .ref t15, .int 0, .ref t17, .ref t18, .ref t19]))]) hP hD [0, 1] [] rfl rfl (by decide) (by decide) hk1 hFc hP1 hD1
  clear hK1 hP1 hD1 hPc hDc hFc
  clear hk1 hz1 ht hvm
  have hP : va_P D vwCl [(g, .inr (11, [.ref g0, .ref g1, .ref g2, .int 0, .ref g4, .ref g5, .ref g6, .ref g7, .ref g8, .ref g9, .ref g10, .ref g11, .ref g12])), (g1, .inr (10, [.int 0, .int 0, .int 0, .ref t3, .ref t4, .ref t5, .ref t6, .int 0, .int 0, .ref t9, .ref t10, .int 0, .ref t12, .ref t13, .ref t14, .ref t15, .int 0, .ref t17, .ref t18, .ref t19]))] H1 := hP
  have hD : va_D A [(g, .inr (11, [.ref g0, .ref g1, .ref g2, .int 0, .ref g4, .ref g5, .ref g6, .ref g7, .ref g8, .ref g9, .ref g10, .ref g11, .ref g12])), (g1, .inr (10, [.int 0, .int 0, .int 0, .ref t3, .ref t4, .ref t5, .ref t6, .int 0, .int 0, .ref t9, .ref t10, .int 0, .ref t12, .ref t13, .ref t14, .ref t15, .int 0, .ref t17, .ref t18, .ref t19]))] := hD
  generalize H1 = H at hP hS ⊢
  obtain rfl : r_1 = 1 := hw
  refine lv_if_eq (tgt := 12) hx hb dX11_wins_4 (by decide) (fun c9 => absurd c9 (by decide)) (fun _ => ?_)
  refine lv_bipush (v := (-2)) hx hb dX11_wins_7 (by decide) ?_
  refine lv_goto (tgt := 20) hx hb dX11_wins_9 (by decide) ?_
  have hP9 := hP.sub (ws' := [(g, .inr (11, [.ref g0, .ref g1, .ref g2, .int 0, .ref g4, .ref g5, .ref g6, .ref g7, .ref g8, .ref g9, .ref g10, .ref g11, .ref g12])), (g1, .inr (10, [.int 0, .int 0, .int 0, .ref t3, .ref t4, .ref t5, .ref t6, .int 0, .int 0, .ref t9, .ref t10, .int 0, .ref t12, .ref t13, .ref t14, .ref t15, .int 0, .ref t17, .ref t18, .ref t19]))]) [0, 1] rfl
  have hD9 := hD.sub (ws' := [(g, .inr (11, [.ref g0, .ref g1, .ref g2, .int 0, .ref g4, .ref g5, .ref g6, .ref g7, .ref g8, .ref g9, .ref g10, .ref g11, .ref g12])), (g1, .inr (10, [.int 0, .int 0, .int 0, .ref t3, .ref t4, .ref t5, .ref t6, .int 0, .int 0, .ref t9, .ref t10, .int 0, .ref t12, .ref t13, .ref t14, .ref t15, .int 0, .ref t17, .ref t18, .ref t19]))]) [0, 1] (by decide) rfl
  exact W.iret (v := (-2)) hx hb hr (fun tZ ht hW => ⟨⟨(-2), (), rfl, rfl, by rw [ht]; exact hP9, va_K.moved hW.alike hK, hD9⟩, hS.F ht⟩) hS.2.2 dX11_wins_20
set_option maxHeartbeats 4000000 in
set_option maxRecDepth 100000 in
theorem c_X11_price (l : Launch) (D : va_G) (k : Nat → ClassId) (g : Nat) (g0 : Nat) (g1 : Nat) (g2 : Nat) (g4 : Nat) (g5 : Nat) (g6 : Nat) (g7 : Nat) (g8 : Nat) (g9 : Nat) (g10 : Nat) (g11 : Nat) (g12 : Nat) (t3 : Nat) (t4 : Nat) (t5 : Nat) (t6 : Nat) (t9 : Nat) (t10 : Nat) (t12 : Nat) (t13 : Nat) (t14 : Nat) (t15 : Nat) (t17 : Nat) (t18 : Nat) (t19 : Nat) (sz : Nat) : Met l yX11_price (ww yX11_price cX11_price 3 (some .int)) ({ frames := 1, cells := 0, slots := 0, locals := 20 }) (Pre0 D k [(g, .inr (11, [.ref g0, .ref g1, .ref g2, .int 0, .ref g4, .ref g5, .ref g6, .ref g7, .ref g8, .ref g9, .ref g10, .ref g11, .ref g12])), (g1, .inr (10, [.int 0, .int 0, .int 0, .ref t3, .ref t4, .ref t5, .ref t6, .int 0, .int 0, .ref t9, .ref t10, .int 0, .ref t12, .ref t13, .ref t14, .ref t15, .int 0, .ref t17, .ref t18, .ref t19]))] sz [.ref g]) (va_Qi (fun (r : Int32) (_ : Unit) => r = (-2)) (fun (_ : Unit) tZ => Bw D k (va_A [(g, .inr (11, [.ref g0, .ref g1, .ref g2, .int 0, .ref g4, .ref g5, .ref g6, .ref g7, .ref g8, .ref g9, .ref g10, .ref g11, .ref g12])), (g1, .inr (10, [.int 0, .int 0, .int 0, .ref t3, .ref t4, .ref t5, .ref t6, .int 0, .int 0, .ref t9, .ref t10, .int 0, .ref t12, .ref t13, .ref t14, .ref t15, .int 0, .ref t17, .ref t18, .ref t19]))] sz) [(g, .inr (11, [.ref g0, .ref g1, .ref g2, .int 0, .ref g4, .ref g5, .ref g6, .ref g7, .ref g8, .ref g9, .ref g10, .ref g11, .ref g12])), (g1, .inr (10, [.int 0, .int 0, .int 0, .ref t3, .ref t4, .ref t5, .ref t6, .int 0, .int 0, .ref t9, .ref t10, .int 0, .ref t12, .ref t13, .ref t14, .ref t15, .int 0, .ref t17, .ref t18, .ref t19]))] tZ) (va_A [(g, .inr (11, [.ref g0, .ref g1, .ref g2, .int 0, .ref g4, .ref g5, .ref g6, .ref g7, .ref g8, .ref g9, .ref g10, .ref g11, .ref g12])), (g1, .inr (10, [.int 0, .int 0, .int 0, .ref t3, .ref t4, .ref t5, .ref t6, .int 0, .int 0, .ref t9, .ref t10, .int 0, .ref t12, .ref t13, .ref t14, .ref t15, .int 0, .ref t17, .ref t18, .ref t19]))] sz)) 0 0 (va_A [(g, .inr (11, [.ref g0, .ref g1, .ref g2, .int 0, .ref g4, .ref g5, .ref g6, .ref g7, .ref g8, .ref g9, .ref g10, .ref g11, .ref g12])), (g1, .inr (10, [.int 0, .int 0, .int 0, .ref t3, .ref t4, .ref t5, .ref t6, .int 0, .int 0, .ref t9, .ref t10, .int 0, .ref t12, .ref t13, .ref t14, .ref t15, .int 0, .ref t17, .ref t18, .ref t19]))] sz) := by
  refine Met.ofW (cc := cX11_price) (maxL := 3) (ret := (some .int)) (by decide +kernel) rfl ?_
  intro p e s m args below meth c s₁ B hml hv
  obtain ⟨rfl, hsz, hP, hK, hD0, hN⟩ := hv
  have hx := B.exec
  have hb := B.bytes
  have hr := B.returns
  have hts : ∀ w ∈ TT, w.before _ s = true := fun w h => atoms_spec (ws := ww yX11_price cX11_price 3 (some .int)) B.pre w (List.mem_cons_of_mem _ h)
  have hown : s.vm.findClass RX11 = some m.cls := findClass_of_methodNamed B.named
  have hlocks := B.notSynchronized
  subst hsz
  have hD := hD0.self (sz := s.heap.size)
  generalize hAe : va_A [(g, .inr (11, [.ref g0, .ref g1, .ref g2, .int 0, .ref g4, .ref g5, .ref g6, .ref g7, .ref g8, .ref g9, .ref g10, .ref g11, .ref g12])), (g1, .inr (10, [.int 0, .int 0, .int 0, .ref t3, .ref t4, .ref t5, .ref t6, .int 0, .int 0, .ref t9, .ref t10, .int 0, .ref t12, .ref t13, .ref t14, .ref t15, .int 0, .ref t17, .ref t18, .ref t19]))] s.heap.size = A at hD ⊢
  have hA : ∀ q : Nat, s.heap.size ≤ q → A q := fun q h => by rw [← hAe]; exact Or.inr h
  have hS : va_S A s.heap s.heap [] := va_S.rf
  have hl := lv_entry ([.ref g]) (n := 3) (Nat.le_of_ble_eq_true rfl)
  rw [lg_entry_eq]
  generalize (lg_sl ([.ref g]) ++ List.replicate (3 - (lg_sl ([.ref g])).length) Slot.unset).toArray = ls at hl ⊢
  have hl : lv_has ls 3 [(0, .ref g)] := hl
  refine lv_aload_n hx hb dX11_price_0 rfl (lv_at hl 0 rfl) ?_
  have hPc := hP.sub (ws' := [(g, .inr (11, [.ref g0, .ref g1, .ref g2, .int 0, .ref g4, .ref g5, .ref g6, .ref g7, .ref g8, .ref g9, .ref g10, .ref g11, .ref g12])), (g1, .inr (10, [.int 0, .int 0, .int 0, .ref t3, .ref t4, .ref t5, .ref t6, .int 0, .int 0, .ref t9, .ref t10, .int 0, .ref t12, .ref t13, .ref t14, .ref t15, .int 0, .ref t17, .ref t18, .ref t19]))]) [0, 1] rfl
  have hDc := hD.sub (ws' := [(g, .inr (11, [.ref g0, .ref g1, .ref g2, .int 0, .ref g4, .ref g5, .ref g6, .ref g7, .ref g8, .ref g9, .ref g10, .ref g11, .ref g12])), (g1, .inr (10, [.int 0, .int 0, .int 0, .ref t3, .ref t4, .ref t5, .ref t6, .int 0, .int 0, .ref t9, .ref t10, .int 0, .ref t12, .ref t13, .ref t14, .ref t15, .int 0, .ref t17, .ref t18, .ref t19]))]) [0, 1] (by decide) rfl
  have hFc := va_free (wc := [(g, .inr (11, [.ref g0, .ref g1, .ref g2, .int 0, .ref g4, .ref g5, .ref g6, .ref g7, .ref g8, .ref g9, .ref g10, .ref g11, .ref g12])), (g1, .inr (10, [.int 0, .int 0, .int 0, .ref t3, .ref t4, .ref t5, .ref t6, .int 0, .int 0, .ref t9, .ref t10, .int 0, .ref t12, .ref t13, .ref t14, .ref t15, .int 0, .ref t17, .ref t18, .ref t19]))]) hD hS hA [0, 1] rfl
  refine va_calli (va_runV (C := RX11) (As := []) (rest := []) ⟨hx, hb, hml, hown, hts⟩ (c_X11_hasNoTown l D k g g0 g1 g2 g4 g5 g6 g7 g8 g9 g10 g11 g12 t3 t4 t5 t6 t9 t10 t12 t13 t14 t15 t17 t18 t19 s.heap.size) (cwV 0 hts (gV tw_3_235 tw_3_237 tw_p_23 tw_1_1 tw_3_238) rfl rfl rfl hdV_X11_hasNoTown ⟨Nat.le_of_ble_eq_true rfl, Nat.le_of_ble_eq_true rfl⟩) (cz_V hK hPc hDc hN (ci := 11) (q0 := 0) rfl rfl []) rfl rfl hl.1 rfl (lv_room (Nat.le_of_ble_eq_true rfl)) dX11_price_1 ⟨Nat.le_of_ble_eq_true rfl, Nat.le_of_ble_eq_true rfl⟩) hS (fun q _ h => hFc q h) hFc (fun r_1 uZ tZ H1 locs ht hvm hw hB hz1 hk1 hS => ?_)
  obtain ⟨hP1, hK1, hD1⟩ := hB
  rw [ht] at hP1
  obtain ⟨hP, hD⟩ := va_join (wr := []) (w1 := [(g, .inr (11, [.ref g0, .ref g1, .ref g2, .int 0, .ref g4, .ref g5, .ref g6, .ref g7, .ref g8, .ref g9, .ref g10, .ref g11, .ref g12])), (g1, .inr (10, [.int 0, .int 0, .int 0, .ref t3, .ref t4, .ref t5, .ref t6, .int 0, .int 0, .ref t9, .ref t10, .int 0, .ref t12, .ref t13, .ref t14, .ref t15, .int 0, .ref t17, .ref t18, .ref t19]))]) hP hD [0, 1] [] rfl rfl (by decide) (by decide) hk1 hFc hP1 hD1
  clear hK1 hP1 hD1 hPc hDc hFc
  clear hk1 hz1 ht hvm
  have hP : va_P D vwCl [(g, .inr (11, [.ref g0, .ref g1, .ref g2, .int 0, .ref g4, .ref g5, .ref g6, .ref g7, .ref g8, .ref g9, .ref g10, .ref g11, .ref g12])), (g1, .inr (10, [.int 0, .int 0, .int 0, .ref t3, .ref t4, .ref t5, .ref t6, .int 0, .int 0, .ref t9, .ref t10, .int 0, .ref t12, .ref t13, .ref t14, .ref t15, .int 0, .ref t17, .ref t18, .ref t19]))] H1 := hP
  have hD : va_D A [(g, .inr (11, [.ref g0, .ref g1, .ref g2, .int 0, .ref g4, .ref g5, .ref g6, .ref g7, .ref g8, .ref g9, .ref g10, .ref g11, .ref g12])), (g1, .inr (10, [.int 0, .int 0, .int 0, .ref t3, .ref t4, .ref t5, .ref t6, .int 0, .int 0, .ref t9, .ref t10, .int 0, .ref t12, .ref t13, .ref t14, .ref t15, .int 0, .ref t17, .ref t18, .ref t19]))] := hD
  generalize H1 = H at hP hS ⊢
  obtain rfl : r_1 = 1 := hw
  refine lv_if_eq (tgt := 10) hx hb dX11_price_4 (by decide) (fun c9 => absurd c9 (by decide)) (fun _ => ?_)
  refine lv_bipush (v := (-2)) hx hb dX11_price_7 (by decide) ?_
  have hP9 := hP.sub (ws' := [(g, .inr (11, [.ref g0, .ref g1, .ref g2, .int 0, .ref g4, .ref g5, .ref g6, .ref g7, .ref g8, .ref g9, .ref g10, .ref g11, .ref g12])), (g1, .inr (10, [.int 0, .int 0, .int 0, .ref t3, .ref t4, .ref t5, .ref t6, .int 0, .int 0, .ref t9, .ref t10, .int 0, .ref t12, .ref t13, .ref t14, .ref t15, .int 0, .ref t17, .ref t18, .ref t19]))]) [0, 1] rfl
  have hD9 := hD.sub (ws' := [(g, .inr (11, [.ref g0, .ref g1, .ref g2, .int 0, .ref g4, .ref g5, .ref g6, .ref g7, .ref g8, .ref g9, .ref g10, .ref g11, .ref g12])), (g1, .inr (10, [.int 0, .int 0, .int 0, .ref t3, .ref t4, .ref t5, .ref t6, .int 0, .int 0, .ref t9, .ref t10, .int 0, .ref t12, .ref t13, .ref t14, .ref t15, .int 0, .ref t17, .ref t18, .ref t19]))]) [0, 1] (by decide) rfl
  exact W.iret (v := (-2)) hx hb hr (fun tZ ht hW => ⟨⟨(-2), (), rfl, rfl, by rw [ht]; exact hP9, va_K.moved hW.alike hK, hD9⟩, hS.F ht⟩) hS.2.2 dX11_price_9
set_option maxHeartbeats 4000000 in
set_option maxRecDepth 100000 in
theorem c_X11_rests (l : Launch) (D : va_G) (k : Nat → ClassId) (g : Nat) (g0 : Nat) (g1 : Nat) (g2 : Nat) (g4 : Nat) (g5 : Nat) (g6 : Nat) (g7 : Nat) (g8 : Nat) (g9 : Nat) (g10 : Nat) (g11 : Nat) (g12 : Nat) (t3 : Nat) (t4 : Nat) (t5 : Nat) (t6 : Nat) (t9 : Nat) (t10 : Nat) (t12 : Nat) (t13 : Nat) (t14 : Nat) (t15 : Nat) (t17 : Nat) (t18 : Nat) (t19 : Nat) (sz : Nat) : Met l yX11_rests (ww yX11_rests cX11_rests 1 (some .int)) ({ frames := 1, cells := 0, slots := 0, locals := 20 }) (Pre0 D k [(g, .inr (11, [.ref g0, .ref g1, .ref g2, .int 0, .ref g4, .ref g5, .ref g6, .ref g7, .ref g8, .ref g9, .ref g10, .ref g11, .ref g12])), (g1, .inr (10, [.int 0, .int 0, .int 0, .ref t3, .ref t4, .ref t5, .ref t6, .int 0, .int 0, .ref t9, .ref t10, .int 0, .ref t12, .ref t13, .ref t14, .ref t15, .int 0, .ref t17, .ref t18, .ref t19]))] sz [.ref g]) (va_Qi (fun (r : Int32) (_ : Unit) => r = (-2)) (fun (_ : Unit) tZ => Bw D k (va_A [(g, .inr (11, [.ref g0, .ref g1, .ref g2, .int 0, .ref g4, .ref g5, .ref g6, .ref g7, .ref g8, .ref g9, .ref g10, .ref g11, .ref g12])), (g1, .inr (10, [.int 0, .int 0, .int 0, .ref t3, .ref t4, .ref t5, .ref t6, .int 0, .int 0, .ref t9, .ref t10, .int 0, .ref t12, .ref t13, .ref t14, .ref t15, .int 0, .ref t17, .ref t18, .ref t19]))] sz) [(g, .inr (11, [.ref g0, .ref g1, .ref g2, .int 0, .ref g4, .ref g5, .ref g6, .ref g7, .ref g8, .ref g9, .ref g10, .ref g11, .ref g12])), (g1, .inr (10, [.int 0, .int 0, .int 0, .ref t3, .ref t4, .ref t5, .ref t6, .int 0, .int 0, .ref t9, .ref t10, .int 0, .ref t12, .ref t13, .ref t14, .ref t15, .int 0, .ref t17, .ref t18, .ref t19]))] tZ) (va_A [(g, .inr (11, [.ref g0, .ref g1, .ref g2, .int 0, .ref g4, .ref g5, .ref g6, .ref g7, .ref g8, .ref g9, .ref g10, .ref g11, .ref g12])), (g1, .inr (10, [.int 0, .int 0, .int 0, .ref t3, .ref t4, .ref t5, .ref t6, .int 0, .int 0, .ref t9, .ref t10, .int 0, .ref t12, .ref t13, .ref t14, .ref t15, .int 0, .ref t17, .ref t18, .ref t19]))] sz)) 0 0 (va_A [(g, .inr (11, [.ref g0, .ref g1, .ref g2, .int 0, .ref g4, .ref g5, .ref g6, .ref g7, .ref g8, .ref g9, .ref g10, .ref g11, .ref g12])), (g1, .inr (10, [.int 0, .int 0, .int 0, .ref t3, .ref t4, .ref t5, .ref t6, .int 0, .int 0, .ref t9, .ref t10, .int 0, .ref t12, .ref t13, .ref t14, .ref t15, .int 0, .ref t17, .ref t18, .ref t19]))] sz) := by
  refine Met.ofW (cc := cX11_rests) (maxL := 1) (ret := (some .int)) (by decide +kernel) rfl ?_
  intro p e s m args below meth c s₁ B hml hv
  obtain ⟨rfl, hsz, hP, hK, hD0, hN⟩ := hv
  have hx := B.exec
  have hb := B.bytes
  have hr := B.returns
  have hts : ∀ w ∈ TT, w.before _ s = true := fun w h => atoms_spec (ws := ww yX11_rests cX11_rests 1 (some .int)) B.pre w (List.mem_cons_of_mem _ h)
  have hown : s.vm.findClass RX11 = some m.cls := findClass_of_methodNamed B.named
  have hlocks := B.notSynchronized
  subst hsz
  have hD := hD0.self (sz := s.heap.size)
  generalize hAe : va_A [(g, .inr (11, [.ref g0, .ref g1, .ref g2, .int 0, .ref g4, .ref g5, .ref g6, .ref g7, .ref g8, .ref g9, .ref g10, .ref g11, .ref g12])), (g1, .inr (10, [.int 0, .int 0, .int 0, .ref t3, .ref t4, .ref t5, .ref t6, .int 0, .int 0, .ref t9, .ref t10, .int 0, .ref t12, .ref t13, .ref t14, .ref t15, .int 0, .ref t17, .ref t18, .ref t19]))] s.heap.size = A at hD ⊢
  have hA : ∀ q : Nat, s.heap.size ≤ q → A q := fun q h => by rw [← hAe]; exact Or.inr h
  have hS : va_S A s.heap s.heap [] := va_S.rf
  have hl := lv_entry ([.ref g]) (n := 1) (Nat.le_of_ble_eq_true rfl)
  rw [lg_entry_eq]
  generalize (lg_sl ([.ref g]) ++ List.replicate (1 - (lg_sl ([.ref g])).length) Slot.unset).toArray = ls at hl ⊢
  have hl : lv_has ls 1 [(0, .ref g)] := hl
  refine lv_aload_n hx hb dX11_rests_0 rfl (lv_at hl 0 rfl) ?_
  have hPc := hP.sub (ws' := [(g, .inr (11, [.ref g0, .ref g1, .ref g2, .int 0, .ref g4, .ref g5, .ref g6, .ref g7, .ref g8, .ref g9, .ref g10, .ref g11, .ref g12])), (g1, .inr (10, [.int 0, .int 0, .int 0, .ref t3, .ref t4, .ref t5, .ref t6, .int 0, .int 0, .ref t9, .ref t10, .int 0, .ref t12, .ref t13, .ref t14, .ref t15, .int 0, .ref t17, .ref t18, .ref t19]))]) [0, 1] rfl
  have hDc := hD.sub (ws' := [(g, .inr (11, [.ref g0, .ref g1, .ref g2, .int 0, .ref g4, .ref g5, .ref g6, .ref g7, .ref g8, .ref g9, .ref g10, .ref g11, .ref g12])), (g1, .inr (10, [.int 0, .int 0, .int 0, .ref t3, .ref t4, .ref t5, .ref t6, .int 0, .int 0, .ref t9, .ref t10, .int 0, .ref t12, .ref t13, .ref t14, .ref t15, .int 0, .ref t17, .ref t18, .ref t19]))]) [0, 1] (by decide) rfl
  have hFc := va_free (wc := [(g, .inr (11, [.ref g0, .ref g1, .ref g2, .int 0, .ref g4, .ref g5, .ref g6, .ref g7, .ref g8, .ref g9, .ref g10, .ref g11, .ref g12])), (g1, .inr (10, [.int 0, .int 0, .int 0, .ref t3, .ref t4, .ref t5, .ref t6, .int 0, .int 0, .ref t9, .ref t10, .int 0, .ref t12, .ref t13, .ref t14, .ref t15, .int 0, .ref t17, .ref t18, .ref t19]))]) hD hS hA [0, 1] rfl
  refine va_calli (va_runV (C := RX11) (As := []) (rest := []) ⟨hx, hb, hml, hown, hts⟩ (c_X11_hasNoTown l D k g g0 g1 g2 g4 g5 g6 g7 g8 g9 g10 g11 g12 t3 t4 t5 t6 t9 t10 t12 t13 t14 t15 t17 t18 t19 s.heap.size) (cwV 0 hts (gV tw_3_235 tw_3_237 tw_p_23 tw_1_1 tw_3_238) rfl rfl rfl hdV_X11_hasNoTown ⟨Nat.le_of_ble_eq_true rfl, Nat.le_of_ble_eq_true rfl⟩) (cz_V hK hPc hDc hN (ci := 11) (q0 := 0) rfl rfl []) rfl rfl hl.1 rfl (lv_room (Nat.le_of_ble_eq_true rfl)) dX11_rests_1 ⟨Nat.le_of_ble_eq_true rfl, Nat.le_of_ble_eq_true rfl⟩) hS (fun q _ h => hFc q h) hFc (fun r_1 uZ tZ H1 locs ht hvm hw hB hz1 hk1 hS => ?_)
  obtain ⟨hP1, hK1, hD1⟩ := hB
  rw [ht] at hP1
  obtain ⟨hP, hD⟩ := va_join (wr := []) (w1 := [(g, .inr (11, [.ref g0, .ref g1, .ref g2, .int 0, .ref g4, .ref g5, .ref g6, .ref g7, .ref g8, .ref g9, .ref g10, .ref g11, .ref g12])), (g1, .inr (10, [.int 0, .int 0, .int 0, .ref t3, .ref t4, .ref t5, .ref t6, .int 0, .int 0, .ref t9, .ref t10, .int 0, .ref t12, .ref t13, .ref t14, .ref t15, .int 0, .ref t17, .ref t18, .ref t19]))]) hP hD [0, 1] [] rfl rfl (by decide) (by decide) hk1 hFc hP1 hD1
  clear hK1 hP1 hD1 hPc hDc hFc
  clear hk1 hz1 ht hvm
  have hP : va_P D vwCl [(g, .inr (11, [.ref g0, .ref g1, .ref g2, .int 0, .ref g4, .ref g5, .ref g6, .ref g7, .ref g8, .ref g9, .ref g10, .ref g11, .ref g12])), (g1, .inr (10, [.int 0, .int 0, .int 0, .ref t3, .ref t4, .ref t5, .ref t6, .int 0, .int 0, .ref t9, .ref t10, .int 0, .ref t12, .ref t13, .ref t14, .ref t15, .int 0, .ref t17, .ref t18, .ref t19]))] H1 := hP
  have hD : va_D A [(g, .inr (11, [.ref g0, .ref g1, .ref g2, .int 0, .ref g4, .ref g5, .ref g6, .ref g7, .ref g8, .ref g9, .ref g10, .ref g11, .ref g12])), (g1, .inr (10, [.int 0, .int 0, .int 0, .ref t3, .ref t4, .ref t5, .ref t6, .int 0, .int 0, .ref t9, .ref t10, .int 0, .ref t12, .ref t13, .ref t14, .ref t15, .int 0, .ref t17, .ref t18, .ref t19]))] := hD
  generalize H1 = H at hP hS ⊢
  obtain rfl : r_1 = 1 := hw
  refine lv_if_eq (tgt := 10) hx hb dX11_rests_4 (by decide) (fun c9 => absurd c9 (by decide)) (fun _ => ?_)
  refine lv_bipush (v := (-2)) hx hb dX11_rests_7 (by decide) ?_
  have hP9 := hP.sub (ws' := [(g, .inr (11, [.ref g0, .ref g1, .ref g2, .int 0, .ref g4, .ref g5, .ref g6, .ref g7, .ref g8, .ref g9, .ref g10, .ref g11, .ref g12])), (g1, .inr (10, [.int 0, .int 0, .int 0, .ref t3, .ref t4, .ref t5, .ref t6, .int 0, .int 0, .ref t9, .ref t10, .int 0, .ref t12, .ref t13, .ref t14, .ref t15, .int 0, .ref t17, .ref t18, .ref t19]))]) [0, 1] rfl
  have hD9 := hD.sub (ws' := [(g, .inr (11, [.ref g0, .ref g1, .ref g2, .int 0, .ref g4, .ref g5, .ref g6, .ref g7, .ref g8, .ref g9, .ref g10, .ref g11, .ref g12])), (g1, .inr (10, [.int 0, .int 0, .int 0, .ref t3, .ref t4, .ref t5, .ref t6, .int 0, .int 0, .ref t9, .ref t10, .int 0, .ref t12, .ref t13, .ref t14, .ref t15, .int 0, .ref t17, .ref t18, .ref t19]))]) [0, 1] (by decide) rfl
  exact W.iret (v := (-2)) hx hb hr (fun tZ ht hW => ⟨⟨(-2), (), rfl, rfl, by rw [ht]; exact hP9, va_K.moved hW.alike hK, hD9⟩, hS.F ht⟩) hS.2.2 dX11_rests_9
set_option maxHeartbeats 4000000 in
set_option maxRecDepth 100000 in
theorem c_X11_clerk (l : Launch) (D : va_G) (k : Nat → ClassId) (g : Nat) (g0 : Nat) (g1 : Nat) (g2 : Nat) (g4 : Nat) (g5 : Nat) (g6 : Nat) (g7 : Nat) (g8 : Nat) (g9 : Nat) (g10 : Nat) (g11 : Nat) (g12 : Nat) (t3 : Nat) (t4 : Nat) (t5 : Nat) (t6 : Nat) (t9 : Nat) (t10 : Nat) (t12 : Nat) (t13 : Nat) (t14 : Nat) (t15 : Nat) (t17 : Nat) (t18 : Nat) (t19 : Nat) (sz : Nat) : Met l yX11_clerk (ww yX11_clerk cX11_clerk 1 (some .int)) ({ frames := 1, cells := 0, slots := 0, locals := 20 }) (Pre0 D k [(g, .inr (11, [.ref g0, .ref g1, .ref g2, .int 0, .ref g4, .ref g5, .ref g6, .ref g7, .ref g8, .ref g9, .ref g10, .ref g11, .ref g12])), (g1, .inr (10, [.int 0, .int 0, .int 0, .ref t3, .ref t4, .ref t5, .ref t6, .int 0, .int 0, .ref t9, .ref t10, .int 0, .ref t12, .ref t13, .ref t14, .ref t15, .int 0, .ref t17, .ref t18, .ref t19]))] sz [.ref g]) (va_Qi (fun (r : Int32) (_ : Unit) => r = (-2)) (fun (_ : Unit) tZ => Bw D k (va_A [(g, .inr (11, [.ref g0, .ref g1, .ref g2, .int 0, .ref g4, .ref g5, .ref g6, .ref g7, .ref g8, .ref g9, .ref g10, .ref g11, .ref g12])), (g1, .inr (10, [.int 0, .int 0, .int 0, .ref t3, .ref t4, .ref t5, .ref t6, .int 0, .int 0, .ref t9, .ref t10, .int 0, .ref t12, .ref t13, .ref t14, .ref t15, .int 0, .ref t17, .ref t18, .ref t19]))] sz) [(g, .inr (11, [.ref g0, .ref g1, .ref g2, .int 0, .ref g4, .ref g5, .ref g6, .ref g7, .ref g8, .ref g9, .ref g10, .ref g11, .ref g12])), (g1, .inr (10, [.int 0, .int 0, .int 0, .ref t3, .ref t4, .ref t5, .ref t6, .int 0, .int 0, .ref t9, .ref t10, .int 0, .ref t12, .ref t13, .ref t14, .ref t15, .int 0, .ref t17, .ref t18, .ref t19]))] tZ) (va_A [(g, .inr (11, [.ref g0, .ref g1, .ref g2, .int 0, .ref g4, .ref g5, .ref g6, .ref g7, .ref g8, .ref g9, .ref g10, .ref g11, .ref g12])), (g1, .inr (10, [.int 0, .int 0, .int 0, .ref t3, .ref t4, .ref t5, .ref t6, .int 0, .int 0, .ref t9, .ref t10, .int 0, .ref t12, .ref t13, .ref t14, .ref t15, .int 0, .ref t17, .ref t18, .ref t19]))] sz)) 0 0 (va_A [(g, .inr (11, [.ref g0, .ref g1, .ref g2, .int 0, .ref g4, .ref g5, .ref g6, .ref g7, .ref g8, .ref g9, .ref g10, .ref g11, .ref g12])), (g1, .inr (10, [.int 0, .int 0, .int 0, .ref t3, .ref t4, .ref t5, .ref t6, .int 0, .int 0, .ref t9, .ref t10, .int 0, .ref t12, .ref t13, .ref t14, .ref t15, .int 0, .ref t17, .ref t18, .ref t19]))] sz) := by
  refine Met.ofW (cc := cX11_clerk) (maxL := 1) (ret := (some .int)) (by decide +kernel) rfl ?_
  intro p e s m args below meth c s₁ B hml hv
  obtain ⟨rfl, hsz, hP, hK, hD0, hN⟩ := hv
  have hx := B.exec
  have hb := B.bytes
  have hr := B.returns
  have hts : ∀ w ∈ TT, w.before _ s = true := fun w h => atoms_spec (ws := ww yX11_clerk cX11_clerk 1 (some .int)) B.pre w (List.mem_cons_of_mem _ h)
  have hown : s.vm.findClass RX11 = some m.cls := findClass_of_methodNamed B.named
  have hlocks := B.notSynchronized
  subst hsz
  have hD := hD0.self (sz := s.heap.size)
  generalize hAe : va_A [(g, .inr (11, [.ref g0, .ref g1, .ref g2, .int 0, .ref g4, .ref g5, .ref g6, .ref g7, .ref g8, .ref g9, .ref g10, .ref g11, .ref g12])), (g1, .inr (10, [.int 0, .int 0, .int 0, .ref t3, .ref t4, .ref t5, .ref t6, .int 0, .int 0, .ref t9, .ref t10, .int 0, .ref t12, .ref t13, .ref t14, .ref t15, .int 0, .ref t17, .ref t18, .ref t19]))] s.heap.size = A at hD ⊢
  have hA : ∀ q : Nat, s.heap.size ≤ q → A q := fun q h => by rw [← hAe]; exact Or.inr h
  have hS : va_S A s.heap s.heap [] := va_S.rf
  have hl := lv_entry ([.ref g]) (n := 1) (Nat.le_of_ble_eq_true rfl)
  rw [lg_entry_eq]
  generalize (lg_sl ([.ref g]) ++ List.replicate (1 - (lg_sl ([.ref g])).length) Slot.unset).toArray = ls at hl ⊢
  have hl : lv_has ls 1 [(0, .ref g)] := hl
  refine lv_aload_n hx hb dX11_clerk_0 rfl (lv_at hl 0 rfl) ?_
  have hPc := hP.sub (ws' := [(g, .inr (11, [.ref g0, .ref g1, .ref g2, .int 0, .ref g4, .ref g5, .ref g6, .ref g7, .ref g8, .ref g9, .ref g10, .ref g11, .ref g12])), (g1, .inr (10, [.int 0, .int 0, .int 0, .ref t3, .ref t4, .ref t5, .ref t6, .int 0, .int 0, .ref t9, .ref t10, .int 0, .ref t12, .ref t13, .ref t14, .ref t15, .int 0, .ref t17, .ref t18, .ref t19]))]) [0, 1] rfl
  have hDc := hD.sub (ws' := [(g, .inr (11, [.ref g0, .ref g1, .ref g2, .int 0, .ref g4, .ref g5, .ref g6, .ref g7, .ref g8, .ref g9, .ref g10, .ref g11, .ref g12])), (g1, .inr (10, [.int 0, .int 0, .int 0, .ref t3, .ref t4, .ref t5, .ref t6, .int 0, .int 0, .ref t9, .ref t10, .int 0, .ref t12, .ref t13, .ref t14, .ref t15, .int 0, .ref t17, .ref t18, .ref t19]))]) [0, 1] (by decide) rfl
  have hFc := va_free (wc := [(g, .inr (11, [.ref g0, .ref g1, .ref g2, .int 0, .ref g4, .ref g5, .ref g6, .ref g7, .ref g8, .ref g9, .ref g10, .ref g11, .ref g12])), (g1, .inr (10, [.int 0, .int 0, .int 0, .ref t3, .ref t4, .ref t5, .ref t6, .int 0, .int 0, .ref t9, .ref t10, .int 0, .ref t12, .ref t13, .ref t14, .ref t15, .int 0, .ref t17, .ref t18, .ref t19]))]) hD hS hA [0, 1] rfl
  refine va_calli (va_runV (C := RX11) (As := []) (rest := []) ⟨hx, hb, hml, hown, hts⟩ (c_X11_hasNoTown l D k g g0 g1 g2 g4 g5 g6 g7 g8 g9 g10 g11 g12 t3 t4 t5 t6 t9 t10 t12 t13 t14 t15 t17 t18 t19 s.heap.size) (cwV 0 hts (gV tw_3_235 tw_3_237 tw_p_23 tw_1_1 tw_3_238) rfl rfl rfl hdV_X11_hasNoTown ⟨Nat.le_of_ble_eq_true rfl, Nat.le_of_ble_eq_true rfl⟩) (cz_V hK hPc hDc hN (ci := 11) (q0 := 0) rfl rfl []) rfl rfl hl.1 rfl (lv_room (Nat.le_of_ble_eq_true rfl)) dX11_clerk_1 ⟨Nat.le_of_ble_eq_true rfl, Nat.le_of_ble_eq_true rfl⟩) hS (fun q _ h => hFc q h) hFc (fun r_1 uZ tZ H1 locs ht hvm hw hB hz1 hk1 hS => ?_)
  obtain ⟨hP1, hK1, hD1⟩ := hB
  rw [ht] at hP1
  obtain ⟨hP, hD⟩ := va_join (wr := []) (w1 := [(g, .inr (11, [.ref g0, .ref g1, .ref g2, .int 0, .ref g4, .ref g5, .ref g6, .ref g7, .ref g8, .ref g9, .ref g10, .ref g11, .ref g12])), (g1, .inr (10, [.int 0, .int 0, .int 0, .ref t3, .ref t4, .ref t5, .ref t6, .int 0, .int 0, .ref t9, .ref t10, .int 0, .ref t12, .ref t13, .ref t14, .ref t15, .int 0, .ref t17, .ref t18, .ref t19]))]) hP hD [0, 1] [] rfl rfl (by decide) (by decide) hk1 hFc hP1 hD1
  clear hK1 hP1 hD1 hPc hDc hFc
  clear hk1 hz1 ht hvm
  have hP : va_P D vwCl [(g, .inr (11, [.ref g0, .ref g1, .ref g2, .int 0, .ref g4, .ref g5, .ref g6, .ref g7, .ref g8, .ref g9, .ref g10, .ref g11, .ref g12])), (g1, .inr (10, [.int 0, .int 0, .int 0, .ref t3, .ref t4, .ref t5, .ref t6, .int 0, .int 0, .ref t9, .ref t10, .int 0, .ref t12, .ref t13, .ref t14, .ref t15, .int 0, .ref t17, .ref t18, .ref t19]))] H1 := hP
  have hD : va_D A [(g, .inr (11, [.ref g0, .ref g1, .ref g2, .int 0, .ref g4, .ref g5, .ref g6, .ref g7, .ref g8, .ref g9, .ref g10, .ref g11, .ref g12])), (g1, .inr (10, [.int 0, .int 0, .int 0, .ref t3, .ref t4, .ref t5, .ref t6, .int 0, .int 0, .ref t9, .ref t10, .int 0, .ref t12, .ref t13, .ref t14, .ref t15, .int 0, .ref t17, .ref t18, .ref t19]))] := hD
  generalize H1 = H at hP hS ⊢
  obtain rfl : r_1 = 1 := hw
  refine lv_if_eq (tgt := 10) hx hb dX11_clerk_4 (by decide) (fun c9 => absurd c9 (by decide)) (fun _ => ?_)
  refine lv_bipush (v := (-2)) hx hb dX11_clerk_7 (by decide) ?_
  have hP9 := hP.sub (ws' := [(g, .inr (11, [.ref g0, .ref g1, .ref g2, .int 0, .ref g4, .ref g5, .ref g6, .ref g7, .ref g8, .ref g9, .ref g10, .ref g11, .ref g12])), (g1, .inr (10, [.int 0, .int 0, .int 0, .ref t3, .ref t4, .ref t5, .ref t6, .int 0, .int 0, .ref t9, .ref t10, .int 0, .ref t12, .ref t13, .ref t14, .ref t15, .int 0, .ref t17, .ref t18, .ref t19]))]) [0, 1] rfl
  have hD9 := hD.sub (ws' := [(g, .inr (11, [.ref g0, .ref g1, .ref g2, .int 0, .ref g4, .ref g5, .ref g6, .ref g7, .ref g8, .ref g9, .ref g10, .ref g11, .ref g12])), (g1, .inr (10, [.int 0, .int 0, .int 0, .ref t3, .ref t4, .ref t5, .ref t6, .int 0, .int 0, .ref t9, .ref t10, .int 0, .ref t12, .ref t13, .ref t14, .ref t15, .int 0, .ref t17, .ref t18, .ref t19]))]) [0, 1] (by decide) rfl
  exact W.iret (v := (-2)) hx hb hr (fun tZ ht hW => ⟨⟨(-2), (), rfl, rfl, by rw [ht]; exact hP9, va_K.moved hW.alike hK, hD9⟩, hS.F ht⟩) hS.2.2 dX11_clerk_9
set_option maxHeartbeats 4000000 in
set_option maxRecDepth 100000 in
theorem c_X11_chance (l : Launch) (D : va_G) (k : Nat → ClassId) (g : Nat) (g0 : Nat) (g1 : Nat) (g2 : Nat) (g4 : Nat) (g5 : Nat) (g6 : Nat) (g7 : Nat) (g8 : Nat) (g9 : Nat) (g10 : Nat) (g11 : Nat) (g12 : Nat) (t3 : Nat) (t4 : Nat) (t5 : Nat) (t6 : Nat) (t9 : Nat) (t10 : Nat) (t12 : Nat) (t13 : Nat) (t14 : Nat) (t15 : Nat) (t17 : Nat) (t18 : Nat) (t19 : Nat) (p0 : Int32) (p1 : Int32) (p2 : Int32) (sz : Nat) : Met l yX11_chance (ww yX11_chance cX11_chance 4 (some .long)) ({ frames := 1, cells := 0, slots := 0, locals := 21 }) (Pre0 D k [(g, .inr (11, [.ref g0, .ref g1, .ref g2, .int 0, .ref g4, .ref g5, .ref g6, .ref g7, .ref g8, .ref g9, .ref g10, .ref g11, .ref g12])), (g1, .inr (10, [.int 0, .int 0, .int 0, .ref t3, .ref t4, .ref t5, .ref t6, .int 0, .int 0, .ref t9, .ref t10, .int 0, .ref t12, .ref t13, .ref t14, .ref t15, .int 0, .ref t17, .ref t18, .ref t19]))] sz [.ref g, .int p0, .int p1, .int p2]) (va_Ql (fun (r : Int64) (_ : Unit) => r = (-2)) (fun (_ : Unit) tZ => Bw D k (va_A [(g, .inr (11, [.ref g0, .ref g1, .ref g2, .int 0, .ref g4, .ref g5, .ref g6, .ref g7, .ref g8, .ref g9, .ref g10, .ref g11, .ref g12])), (g1, .inr (10, [.int 0, .int 0, .int 0, .ref t3, .ref t4, .ref t5, .ref t6, .int 0, .int 0, .ref t9, .ref t10, .int 0, .ref t12, .ref t13, .ref t14, .ref t15, .int 0, .ref t17, .ref t18, .ref t19]))] sz) [(g, .inr (11, [.ref g0, .ref g1, .ref g2, .int 0, .ref g4, .ref g5, .ref g6, .ref g7, .ref g8, .ref g9, .ref g10, .ref g11, .ref g12])), (g1, .inr (10, [.int 0, .int 0, .int 0, .ref t3, .ref t4, .ref t5, .ref t6, .int 0, .int 0, .ref t9, .ref t10, .int 0, .ref t12, .ref t13, .ref t14, .ref t15, .int 0, .ref t17, .ref t18, .ref t19]))] tZ) (va_A [(g, .inr (11, [.ref g0, .ref g1, .ref g2, .int 0, .ref g4, .ref g5, .ref g6, .ref g7, .ref g8, .ref g9, .ref g10, .ref g11, .ref g12])), (g1, .inr (10, [.int 0, .int 0, .int 0, .ref t3, .ref t4, .ref t5, .ref t6, .int 0, .int 0, .ref t9, .ref t10, .int 0, .ref t12, .ref t13, .ref t14, .ref t15, .int 0, .ref t17, .ref t18, .ref t19]))] sz)) 0 0 (va_A [(g, .inr (11, [.ref g0, .ref g1, .ref g2, .int 0, .ref g4, .ref g5, .ref g6, .ref g7, .ref g8, .ref g9, .ref g10, .ref g11, .ref g12])), (g1, .inr (10, [.int 0, .int 0, .int 0, .ref t3, .ref t4, .ref t5, .ref t6, .int 0, .int 0, .ref t9, .ref t10, .int 0, .ref t12, .ref t13, .ref t14, .ref t15, .int 0, .ref t17, .ref t18, .ref t19]))] sz) := by
  refine Met.ofW (cc := cX11_chance) (maxL := 4) (ret := (some .long)) (by decide +kernel) rfl ?_
  intro p e s m args below meth c s₁ B hml hv
  obtain ⟨rfl, hsz, hP, hK, hD0, hN⟩ := hv
  have hx := B.exec
  have hb := B.bytes
  have hr := B.returns
  have hts : ∀ w ∈ TT, w.before _ s = true := fun w h => atoms_spec (ws := ww yX11_chance cX11_chance 4 (some .long)) B.pre w (List.mem_cons_of_mem _ h)
  have hown : s.vm.findClass RX11 = some m.cls := findClass_of_methodNamed B.named
  have hlocks := B.notSynchronized
  subst hsz
  have hD := hD0.self (sz := s.heap.size)
  generalize hAe : va_A [(g, .inr (11, [.ref g0, .ref g1, .ref g2, .int 0, .ref g4, .ref g5, .ref g6, .ref g7, .ref g8, .ref g9, .ref g10, .ref g11, .ref g12])), (g1, .inr (10, [.int 0, .int 0, .int 0, .ref t3, .ref t4, .ref t5, .ref t6, .int 0, .int 0, .ref t9, .ref t10, .int 0, .ref t12, .ref t13, .ref t14, .ref t15, .int 0, .ref t17, .ref t18, .ref t19]))] s.heap.size = A at hD ⊢
  have hA : ∀ q : Nat, s.heap.size ≤ q → A q := fun q h => by rw [← hAe]; exact Or.inr h
  have hS : va_S A s.heap s.heap [] := va_S.rf
  have hl := lv_entry ([.ref g, .int p0, .int p1, .int p2]) (n := 4) (Nat.le_of_ble_eq_true rfl)
  rw [lg_entry_eq]
  generalize (lg_sl ([.ref g, .int p0, .int p1, .int p2]) ++ List.replicate (4 - (lg_sl ([.ref g, .int p0, .int p1, .int p2])).length) Slot.unset).toArray = ls at hl ⊢
  have hl : lv_has ls 4 [(0, .ref g), (1, .int p0), (2, .int p1), (3, .int p2)] := hl
  refine lv_aload_n hx hb dX11_chance_0 rfl (lv_at hl 0 rfl) ?_
  refine lv_iload_n hx hb dX11_chance_1 rfl (lv_at hl 1 rfl) ?_
  have hPc := hP.sub (ws' := [(g, .inr (11, [.ref g0, .ref g1, .ref g2, .int 0, .ref g4, .ref g5, .ref g6, .ref g7, .ref g8, .ref g9, .ref g10, .ref g11, .ref g12])), (g1, .inr (10, [.int 0, .int 0, .int 0, .ref t3, .ref t4, .ref t5, .ref t6, .int 0, .int 0, .ref t9, .ref t10, .int 0, .ref t12, .ref t13, .ref t14, .ref t15, .int 0, .ref t17, .ref t18, .ref t19]))]) [0, 1] rfl
  have hDc := hD.sub (ws' := [(g, .inr (11, [.ref g0, .ref g1, .ref g2, .int 0, .ref g4, .ref g5, .ref g6, .ref g7, .ref g8, .ref g9, .ref g10, .ref g11, .ref g12])), (g1, .inr (10, [.int 0, .int 0, .int 0, .ref t3, .ref t4, .ref t5, .ref t6, .int 0, .int 0, .ref t9, .ref t10, .int 0, .ref t12, .ref t13, .ref t14, .ref t15, .int 0, .ref t17, .ref t18, .ref t19]))]) [0, 1] (by decide) rfl
  have hFc := va_free (wc := [(g, .inr (11, [.ref g0, .ref g1, .ref g2, .int 0, .ref g4, .ref g5, .ref g6, .ref g7, .ref g8, .ref g9, .ref g10, .ref g11, .ref g12])), (g1, .inr (10, [.int 0, .int 0, .int 0, .ref t3, .ref t4, .ref t5, .ref t6, .int 0, .int 0, .ref t9, .ref t10, .int 0, .ref t12, .ref t13, .ref t14, .ref t15, .int 0, .ref t17, .ref t18, .ref t19]))]) hD hS hA [0, 1] rfl
  refine va_calli (va_runV (C := RX11) (As := [.int p0]) (rest := []) ⟨hx, hb, hml, hown, hts⟩ (c_X11_isStreet l D k g g0 g1 g2 g4 g5 g6 g7 g8 g9 g10 g11 g12 t3 t4 t5 t6 t9 t10 t12 t13 t14 t15 t17 t18 t19 p0 s.heap.size) (cwV 1 hts (gV tw_3_171 tw_3_173 tw_p_18 tw_1_1 tw_3_174) rfl rfl rfl hdV_X11_isStreet ⟨Nat.le_of_ble_eq_true rfl, Nat.le_of_ble_eq_true rfl⟩) (cz_V hK hPc hDc hN (ci := 11) (q0 := 0) rfl rfl [.int p0]) rfl rfl hl.1 rfl (lv_room (Nat.le_of_ble_eq_true rfl)) dX11_chance_2 ⟨Nat.le_of_ble_eq_true rfl, Nat.le_of_ble_eq_true rfl⟩) hS (fun q _ h => hFc q h) hFc (fun r_1 uZ tZ H1 locs ht hvm hw hB hz1 hk1 hS => ?_)
  obtain ⟨hP1, hK1, hD1⟩ := hB
  rw [ht] at hP1
  obtain ⟨hP, hD⟩ := va_join (wr := []) (w1 := [(g, .inr (11, [.ref g0, .ref g1, .ref g2, .int 0, .ref g4, .ref g5, .ref g6, .ref g7, .ref g8, .ref g9, .ref g10, .ref g11, .ref g12])), (g1, .inr (10, [.int 0, .int 0, .int 0, .ref t3, .ref t4, .ref t5, .ref t6, .int 0, .int 0, .ref t9, .ref t10, .int 0, .ref t12, .ref t13, .ref t14, .ref t15, .int 0, .ref t17, .ref t18, .ref t19]))]) hP hD [0, 1] [] rfl rfl (by decide) (by decide) hk1 hFc hP1 hD1
  clear hK1 hP1 hD1 hPc hDc hFc
  clear hk1 hz1 ht hvm
  have hP : va_P D vwCl [(g, .inr (11, [.ref g0, .ref g1, .ref g2, .int 0, .ref g4, .ref g5, .ref g6, .ref g7, .ref g8, .ref g9, .ref g10, .ref g11, .ref g12])), (g1, .inr (10, [.int 0, .int 0, .int 0, .ref t3, .ref t4, .ref t5, .ref t6, .int 0, .int 0, .ref t9, .ref t10, .int 0, .ref t12, .ref t13, .ref t14, .ref t15, .int 0, .ref t17, .ref t18, .ref t19]))] H1 := hP
  have hD : va_D A [(g, .inr (11, [.ref g0, .ref g1, .ref g2, .int 0, .ref g4, .ref g5, .ref g6, .ref g7, .ref g8, .ref g9, .ref g10, .ref g11, .ref g12])), (g1, .inr (10, [.int 0, .int 0, .int 0, .ref t3, .ref t4, .ref t5, .ref t6, .int 0, .int 0, .ref t9, .ref t10, .int 0, .ref t12, .ref t13, .ref t14, .ref t15, .int 0, .ref t17, .ref t18, .ref t19]))] := hD
  generalize H1 = H at hP hS ⊢
  obtain rfl : r_1 = 0 := hw
  refine lv_if_eq (tgt := 24) hx hb dX11_chance_5 (by decide) (fun _ => ?_) (fun c9 => absurd c9 (by decide))
  refine lv_ldc2 (v := (-2)) hx hb hown (hts _ tw_5_142) dX11_chance_24 ?_
  have hP9 := hP.sub (ws' := [(g, .inr (11, [.ref g0, .ref g1, .ref g2, .int 0, .ref g4, .ref g5, .ref g6, .ref g7, .ref g8, .ref g9, .ref g10, .ref g11, .ref g12])), (g1, .inr (10, [.int 0, .int 0, .int 0, .ref t3, .ref t4, .ref t5, .ref t6, .int 0, .int 0, .ref t9, .ref t10, .int 0, .ref t12, .ref t13, .ref t14, .ref t15, .int 0, .ref t17, .ref t18, .ref t19]))]) [0, 1] rfl
  have hD9 := hD.sub (ws' := [(g, .inr (11, [.ref g0, .ref g1, .ref g2, .int 0, .ref g4, .ref g5, .ref g6, .ref g7, .ref g8, .ref g9, .ref g10, .ref g11, .ref g12])), (g1, .inr (10, [.int 0, .int 0, .int 0, .ref t3, .ref t4, .ref t5, .ref t6, .int 0, .int 0, .ref t9, .ref t10, .int 0, .ref t12, .ref t13, .ref t14, .ref t15, .int 0, .ref t17, .ref t18, .ref t19]))]) [0, 1] (by decide) rfl
  exact W.lret (v := (-2)) hx hb hr (fun tZ ht hW => ⟨⟨(-2), (), rfl, rfl, by rw [ht]; exact hP9, va_K.moved hW.alike hK, hD9⟩, hS.F ht⟩) hS.2.2 dX11_chance_27
set_option maxHeartbeats 4000000 in
set_option maxRecDepth 100000 in
theorem c_X11_sure (l : Launch) (D : va_G) (k : Nat → ClassId) (g : Nat) (g0 : Nat) (g1 : Nat) (g2 : Nat) (g4 : Nat) (g5 : Nat) (g6 : Nat) (g7 : Nat) (g8 : Nat) (g9 : Nat) (g10 : Nat) (g11 : Nat) (g12 : Nat) (t3 : Nat) (t4 : Nat) (t5 : Nat) (t6 : Nat) (t9 : Nat) (t10 : Nat) (t12 : Nat) (t13 : Nat) (t14 : Nat) (t15 : Nat) (t17 : Nat) (t18 : Nat) (t19 : Nat) (p0 : Int32) (p1 : Int32) (sz : Nat) : Met l yX11_sure (ww yX11_sure cX11_sure 3 (some .int)) ({ frames := 1, cells := 0, slots := 0, locals := 21 }) (Pre0 D k [(g, .inr (11, [.ref g0, .ref g1, .ref g2, .int 0, .ref g4, .ref g5, .ref g6, .ref g7, .ref g8, .ref g9, .ref g10, .ref g11, .ref g12])), (g1, .inr (10, [.int 0, .int 0, .int 0, .ref t3, .ref t4, .ref t5, .ref t6, .int 0, .int 0, .ref t9, .ref t10, .int 0, .ref t12, .ref t13, .ref t14, .ref t15, .int 0, .ref t17, .ref t18, .ref t19]))] sz [.ref g, .int p0, .int p1]) (va_Qi (fun (r : Int32) (_ : Unit) => r = (-2)) (fun (_ : Unit) tZ => Bw D k (va_A [(g, .inr (11, [.ref g0, .ref g1, .ref g2, .int 0, .ref g4, .ref g5, .ref g6, .ref g7, .ref g8, .ref g9, .ref g10, .ref g11, .ref g12])), (g1, .inr (10, [.int 0, .int 0, .int 0, .ref t3, .ref t4, .ref t5, .ref t6, .int 0, .int 0, .ref t9, .ref t10, .int 0, .ref t12, .ref t13, .ref t14, .ref t15, .int 0, .ref t17, .ref t18, .ref t19]))] sz) [(g, .inr (11, [.ref g0, .ref g1, .ref g2, .int 0, .ref g4, .ref g5, .ref g6, .ref g7, .ref g8, .ref g9, .ref g10, .ref g11, .ref g12])), (g1, .inr (10, [.int 0, .int 0, .int 0, .ref t3, .ref t4, .ref t5, .ref t6, .int 0, .int 0, .ref t9, .ref t10, .int 0, .ref t12, .ref t13, .ref t14, .ref t15, .int 0, .ref t17, .ref t18, .ref t19]))] tZ) (va_A [(g, .inr (11, [.ref g0, .ref g1, .ref g2, .int 0, .ref g4, .ref g5, .ref g6, .ref g7, .ref g8, .ref g9, .ref g10, .ref g11, .ref g12])), (g1, .inr (10, [.int 0, .int 0, .int 0, .ref t3, .ref t4, .ref t5, .ref t6, .int 0, .int 0, .ref t9, .ref t10, .int 0, .ref t12, .ref t13, .ref t14, .ref t15, .int 0, .ref t17, .ref t18, .ref t19]))] sz)) 0 0 (va_A [(g, .inr (11, [.ref g0, .ref g1, .ref g2, .int 0, .ref g4, .ref g5, .ref g6, .ref g7, .ref g8, .ref g9, .ref g10, .ref g11, .ref g12])), (g1, .inr (10, [.int 0, .int 0, .int 0, .ref t3, .ref t4, .ref t5, .ref t6, .int 0, .int 0, .ref t9, .ref t10, .int 0, .ref t12, .ref t13, .ref t14, .ref t15, .int 0, .ref t17, .ref t18, .ref t19]))] sz) := by
  refine Met.ofW (cc := cX11_sure) (maxL := 3) (ret := (some .int)) (by decide +kernel) rfl ?_
  intro p e s m args below meth c s₁ B hml hv
  obtain ⟨rfl, hsz, hP, hK, hD0, hN⟩ := hv
  have hx := B.exec
  have hb := B.bytes
  have hr := B.returns
  have hts : ∀ w ∈ TT, w.before _ s = true := fun w h => atoms_spec (ws := ww yX11_sure cX11_sure 3 (some .int)) B.pre w (List.mem_cons_of_mem _ h)
  have hown : s.vm.findClass RX11 = some m.cls := findClass_of_methodNamed B.named
  have hlocks := B.notSynchronized
  subst hsz
  have hD := hD0.self (sz := s.heap.size)
  generalize hAe : va_A [(g, .inr (11, [.ref g0, .ref g1, .ref g2, .int 0, .ref g4, .ref g5, .ref g6, .ref g7, .ref g8, .ref g9, .ref g10, .ref g11, .ref g12])), (g1, .inr (10, [.int 0, .int 0, .int 0, .ref t3, .ref t4, .ref t5, .ref t6, .int 0, .int 0, .ref t9, .ref t10, .int 0, .ref t12, .ref t13, .ref t14, .ref t15, .int 0, .ref t17, .ref t18, .ref t19]))] s.heap.size = A at hD ⊢
  have hA : ∀ q : Nat, s.heap.size ≤ q → A q := fun q h => by rw [← hAe]; exact Or.inr h
  have hS : va_S A s.heap s.heap [] := va_S.rf
  have hl := lv_entry ([.ref g, .int p0, .int p1]) (n := 3) (Nat.le_of_ble_eq_true rfl)
  rw [lg_entry_eq]
  generalize (lg_sl ([.ref g, .int p0, .int p1]) ++ List.replicate (3 - (lg_sl ([.ref g, .int p0, .int p1])).length) Slot.unset).toArray = ls at hl ⊢
  have hl : lv_has ls 3 [(0, .ref g), (1, .int p0), (2, .int p1)] := hl
  refine lv_aload_n hx hb dX11_sure_0 rfl (lv_at hl 0 rfl) ?_
  refine lv_iload_n hx hb dX11_sure_1 rfl (lv_at hl 1 rfl) ?_
  have hPc := hP.sub (ws' := [(g, .inr (11, [.ref g0, .ref g1, .ref g2, .int 0, .ref g4, .ref g5, .ref g6, .ref g7, .ref g8, .ref g9, .ref g10, .ref g11, .ref g12])), (g1, .inr (10, [.int 0, .int 0, .int 0, .ref t3, .ref t4, .ref t5, .ref t6, .int 0, .int 0, .ref t9, .ref t10, .int 0, .ref t12, .ref t13, .ref t14, .ref t15, .int 0, .ref t17, .ref t18, .ref t19]))]) [0, 1] rfl
  have hDc := hD.sub (ws' := [(g, .inr (11, [.ref g0, .ref g1, .ref g2, .int 0, .ref g4, .ref g5, .ref g6, .ref g7, .ref g8, .ref g9, .ref g10, .ref g11, .ref g12])), (g1, .inr (10, [.int 0, .int 0, .int 0, .ref t3, .ref t4, .ref t5, .ref t6, .int 0, .int 0, .ref t9, .ref t10, .int 0, .ref t12, .ref t13, .ref t14, .ref t15, .int 0, .ref t17, .ref t18, .ref t19]))]) [0, 1] (by decide) rfl
  have hFc := va_free (wc := [(g, .inr (11, [.ref g0, .ref g1, .ref g2, .int 0, .ref g4, .ref g5, .ref g6, .ref g7, .ref g8, .ref g9, .ref g10, .ref g11, .ref g12])), (g1, .inr (10, [.int 0, .int 0, .int 0, .ref t3, .ref t4, .ref t5, .ref t6, .int 0, .int 0, .ref t9, .ref t10, .int 0, .ref t12, .ref t13, .ref t14, .ref t15, .int 0, .ref t17, .ref t18, .ref t19]))]) hD hS hA [0, 1] rfl
  refine va_calli (va_runV (C := RX11) (As := [.int p0]) (rest := []) ⟨hx, hb, hml, hown, hts⟩ (c_X11_isStreet l D k g g0 g1 g2 g4 g5 g6 g7 g8 g9 g10 g11 g12 t3 t4 t5 t6 t9 t10 t12 t13 t14 t15 t17 t18 t19 p0 s.heap.size) (cwV 1 hts (gV tw_3_171 tw_3_173 tw_p_18 tw_1_1 tw_3_174) rfl rfl rfl hdV_X11_isStreet ⟨Nat.le_of_ble_eq_true rfl, Nat.le_of_ble_eq_true rfl⟩) (cz_V hK hPc hDc hN (ci := 11) (q0 := 0) rfl rfl [.int p0]) rfl rfl hl.1 rfl (lv_room (Nat.le_of_ble_eq_true rfl)) dX11_sure_2 ⟨Nat.le_of_ble_eq_true rfl, Nat.le_of_ble_eq_true rfl⟩) hS (fun q _ h => hFc q h) hFc (fun r_1 uZ tZ H1 locs ht hvm hw hB hz1 hk1 hS => ?_)
  obtain ⟨hP1, hK1, hD1⟩ := hB
  rw [ht] at hP1
  obtain ⟨hP, hD⟩ := va_join (wr := []) (w1 := [(g, .inr (11, [.ref g0, .ref g1, .ref g2, .int 0, .ref g4, .ref g5, .ref g6, .ref g7, .ref g8, .ref g9, .ref g10, .ref g11, .ref g12])), (g1, .inr (10, [.int 0, .int 0, .int 0, .ref t3, .ref t4, .ref t5, .ref t6, .int 0, .int 0, .ref t9, .ref t10, .int 0, .ref t12, .ref t13, .ref t14, .ref t15, .int 0, .ref t17, .ref t18, .ref t19]))]) hP hD [0, 1] [] rfl rfl (by decide) (by decide) hk1 hFc hP1 hD1
  clear hK1 hP1 hD1 hPc hDc hFc
  clear hk1 hz1 ht hvm
  have hP : va_P D vwCl [(g, .inr (11, [.ref g0, .ref g1, .ref g2, .int 0, .ref g4, .ref g5, .ref g6, .ref g7, .ref g8, .ref g9, .ref g10, .ref g11, .ref g12])), (g1, .inr (10, [.int 0, .int 0, .int 0, .ref t3, .ref t4, .ref t5, .ref t6, .int 0, .int 0, .ref t9, .ref t10, .int 0, .ref t12, .ref t13, .ref t14, .ref t15, .int 0, .ref t17, .ref t18, .ref t19]))] H1 := hP
  have hD : va_D A [(g, .inr (11, [.ref g0, .ref g1, .ref g2, .int 0, .ref g4, .ref g5, .ref g6, .ref g7, .ref g8, .ref g9, .ref g10, .ref g11, .ref g12])), (g1, .inr (10, [.int 0, .int 0, .int 0, .ref t3, .ref t4, .ref t5, .ref t6, .int 0, .int 0, .ref t9, .ref t10, .int 0, .ref t12, .ref t13, .ref t14, .ref t15, .int 0, .ref t17, .ref t18, .ref t19]))] := hD
  generalize H1 = H at hP hS ⊢
  obtain rfl : r_1 = 0 := hw
  refine lv_if_eq (tgt := 18) hx hb dX11_sure_5 (by decide) (fun _ => ?_) (fun c9 => absurd c9 (by decide))
  refine lv_bipush (v := (-2)) hx hb dX11_sure_18 (by decide) ?_
  have hP9 := hP.sub (ws' := [(g, .inr (11, [.ref g0, .ref g1, .ref g2, .int 0, .ref g4, .ref g5, .ref g6, .ref g7, .ref g8, .ref g9, .ref g10, .ref g11, .ref g12])), (g1, .inr (10, [.int 0, .int 0, .int 0, .ref t3, .ref t4, .ref t5, .ref t6, .int 0, .int 0, .ref t9, .ref t10, .int 0, .ref t12, .ref t13, .ref t14, .ref t15, .int 0, .ref t17, .ref t18, .ref t19]))]) [0, 1] rfl
  have hD9 := hD.sub (ws' := [(g, .inr (11, [.ref g0, .ref g1, .ref g2, .int 0, .ref g4, .ref g5, .ref g6, .ref g7, .ref g8, .ref g9, .ref g10, .ref g11, .ref g12])), (g1, .inr (10, [.int 0, .int 0, .int 0, .ref t3, .ref t4, .ref t5, .ref t6, .int 0, .int 0, .ref t9, .ref t10, .int 0, .ref t12, .ref t13, .ref t14, .ref t15, .int 0, .ref t17, .ref t18, .ref t19]))]) [0, 1] (by decide) rfl
  exact W.iret (v := (-2)) hx hb hr (fun tZ ht hW => ⟨⟨(-2), (), rfl, rfl, by rw [ht]; exact hP9, va_K.moved hW.alike hK, hD9⟩, hS.F ht⟩) hS.2.2 dX11_sure_20
set_option maxHeartbeats 4000000 in
set_option maxRecDepth 100000 in
theorem c_X11_bar (l : Launch) (D : va_G) (k : Nat → ClassId) (g : Nat) (g0 : Nat) (g1 : Nat) (g2 : Nat) (g4 : Nat) (g5 : Nat) (g6 : Nat) (g7 : Nat) (g8 : Nat) (g9 : Nat) (g10 : Nat) (g11 : Nat) (g12 : Nat) (t3 : Nat) (t4 : Nat) (t5 : Nat) (t6 : Nat) (t9 : Nat) (t10 : Nat) (t12 : Nat) (t13 : Nat) (t14 : Nat) (t15 : Nat) (t17 : Nat) (t18 : Nat) (t19 : Nat) (p0 : Int32) (p1 : Int32) (sz : Nat) : Met l yX11_bar (ww yX11_bar cX11_bar 4 (some .int)) ({ frames := 1, cells := 0, slots := 0, locals := 21 }) (Pre0 D k [(g, .inr (11, [.ref g0, .ref g1, .ref g2, .int 0, .ref g4, .ref g5, .ref g6, .ref g7, .ref g8, .ref g9, .ref g10, .ref g11, .ref g12])), (g1, .inr (10, [.int 0, .int 0, .int 0, .ref t3, .ref t4, .ref t5, .ref t6, .int 0, .int 0, .ref t9, .ref t10, .int 0, .ref t12, .ref t13, .ref t14, .ref t15, .int 0, .ref t17, .ref t18, .ref t19]))] sz [.ref g, .int p0, .int p1]) (va_Qi (fun (r : Int32) (_ : Unit) => r = (-2)) (fun (_ : Unit) tZ => Bw D k (va_A [(g, .inr (11, [.ref g0, .ref g1, .ref g2, .int 0, .ref g4, .ref g5, .ref g6, .ref g7, .ref g8, .ref g9, .ref g10, .ref g11, .ref g12])), (g1, .inr (10, [.int 0, .int 0, .int 0, .ref t3, .ref t4, .ref t5, .ref t6, .int 0, .int 0, .ref t9, .ref t10, .int 0, .ref t12, .ref t13, .ref t14, .ref t15, .int 0, .ref t17, .ref t18, .ref t19]))] sz) [(g, .inr (11, [.ref g0, .ref g1, .ref g2, .int 0, .ref g4, .ref g5, .ref g6, .ref g7, .ref g8, .ref g9, .ref g10, .ref g11, .ref g12])), (g1, .inr (10, [.int 0, .int 0, .int 0, .ref t3, .ref t4, .ref t5, .ref t6, .int 0, .int 0, .ref t9, .ref t10, .int 0, .ref t12, .ref t13, .ref t14, .ref t15, .int 0, .ref t17, .ref t18, .ref t19]))] tZ) (va_A [(g, .inr (11, [.ref g0, .ref g1, .ref g2, .int 0, .ref g4, .ref g5, .ref g6, .ref g7, .ref g8, .ref g9, .ref g10, .ref g11, .ref g12])), (g1, .inr (10, [.int 0, .int 0, .int 0, .ref t3, .ref t4, .ref t5, .ref t6, .int 0, .int 0, .ref t9, .ref t10, .int 0, .ref t12, .ref t13, .ref t14, .ref t15, .int 0, .ref t17, .ref t18, .ref t19]))] sz)) 0 0 (va_A [(g, .inr (11, [.ref g0, .ref g1, .ref g2, .int 0, .ref g4, .ref g5, .ref g6, .ref g7, .ref g8, .ref g9, .ref g10, .ref g11, .ref g12])), (g1, .inr (10, [.int 0, .int 0, .int 0, .ref t3, .ref t4, .ref t5, .ref t6, .int 0, .int 0, .ref t9, .ref t10, .int 0, .ref t12, .ref t13, .ref t14, .ref t15, .int 0, .ref t17, .ref t18, .ref t19]))] sz) := by
  refine Met.ofW (cc := cX11_bar) (maxL := 4) (ret := (some .int)) (by decide +kernel) rfl ?_
  intro p e s m args below meth c s₁ B hml hv
  obtain ⟨rfl, hsz, hP, hK, hD0, hN⟩ := hv
  have hx := B.exec
  have hb := B.bytes
  have hr := B.returns
  have hts : ∀ w ∈ TT, w.before _ s = true := fun w h => atoms_spec (ws := ww yX11_bar cX11_bar 4 (some .int)) B.pre w (List.mem_cons_of_mem _ h)
  have hown : s.vm.findClass RX11 = some m.cls := findClass_of_methodNamed B.named
  have hlocks := B.notSynchronized
  subst hsz
  have hD := hD0.self (sz := s.heap.size)
  generalize hAe : va_A [(g, .inr (11, [.ref g0, .ref g1, .ref g2, .int 0, .ref g4, .ref g5, .ref g6, .ref g7, .ref g8, .ref g9, .ref g10, .ref g11, .ref g12])), (g1, .inr (10, [.int 0, .int 0, .int 0, .ref t3, .ref t4, .ref t5, .ref t6, .int 0, .int 0, .ref t9, .ref t10, .int 0, .ref t12, .ref t13, .ref t14, .ref t15, .int 0, .ref t17, .ref t18, .ref t19]))] s.heap.size = A at hD ⊢
  have hA : ∀ q : Nat, s.heap.size ≤ q → A q := fun q h => by rw [← hAe]; exact Or.inr h
  have hS : va_S A s.heap s.heap [] := va_S.rf
  have hl := lv_entry ([.ref g, .int p0, .int p1]) (n := 4) (Nat.le_of_ble_eq_true rfl)
  rw [lg_entry_eq]
  generalize (lg_sl ([.ref g, .int p0, .int p1]) ++ List.replicate (4 - (lg_sl ([.ref g, .int p0, .int p1])).length) Slot.unset).toArray = ls at hl ⊢
  have hl : lv_has ls 4 [(0, .ref g), (1, .int p0), (2, .int p1)] := hl
  refine lv_aload_n hx hb dX11_bar_0 rfl (lv_at hl 0 rfl) ?_
  refine lv_iload_n hx hb dX11_bar_1 rfl (lv_at hl 1 rfl) ?_
  have hPc := hP.sub (ws' := [(g, .inr (11, [.ref g0, .ref g1, .ref g2, .int 0, .ref g4, .ref g5, .ref g6, .ref g7, .ref g8, .ref g9, .ref g10, .ref g11, .ref g12])), (g1, .inr (10, [.int 0, .int 0, .int 0, .ref t3, .ref t4, .ref t5, .ref t6, .int 0, .int 0, .ref t9, .ref t10, .int 0, .ref t12, .ref t13, .ref t14, .ref t15, .int 0, .ref t17, .ref t18, .ref t19]))]) [0, 1] rfl
  have hDc := hD.sub (ws' := [(g, .inr (11, [.ref g0, .ref g1, .ref g2, .int 0, .ref g4, .ref g5, .ref g6, .ref g7, .ref g8, .ref g9, .ref g10, .ref g11, .ref g12])), (g1, .inr (10, [.int 0, .int 0, .int 0, .ref t3, .ref t4, .ref t5, .ref t6, .int 0, .int 0, .ref t9, .ref t10, .int 0, .ref t12, .ref t13, .ref t14, .ref t15, .int 0, .ref t17, .ref t18, .ref t19]))]) [0, 1] (by decide) rfl
  have hFc := va_free (wc := [(g, .inr (11, [.ref g0, .ref g1, .ref g2, .int 0, .ref g4, .ref g5, .ref g6, .ref g7, .ref g8, .ref g9, .ref g10, .ref g11, .ref g12])), (g1, .inr (10, [.int 0, .int 0, .int 0, .ref t3, .ref t4, .ref t5, .ref t6, .int 0, .int 0, .ref t9, .ref t10, .int 0, .ref t12, .ref t13, .ref t14, .ref t15, .int 0, .ref t17, .ref t18, .ref t19]))]) hD hS hA [0, 1] rfl
  refine va_calli (va_runV (C := RX11) (As := [.int p0]) (rest := []) ⟨hx, hb, hml, hown, hts⟩ (c_X11_isLane l D k g g0 g1 g2 g4 g5 g6 g7 g8 g9 g10 g11 g12 t3 t4 t5 t6 t9 t10 t12 t13 t14 t15 t17 t18 t19 p0 s.heap.size) (cwV 1 hts (gV tw_3_147 tw_3_149 tw_p_15 tw_1_1 tw_3_150) rfl rfl rfl hdV_X11_isLane ⟨Nat.le_of_ble_eq_true rfl, Nat.le_of_ble_eq_true rfl⟩) (cz_V hK hPc hDc hN (ci := 11) (q0 := 0) rfl rfl [.int p0]) rfl rfl hl.1 rfl (lv_room (Nat.le_of_ble_eq_true rfl)) dX11_bar_2 ⟨Nat.le_of_ble_eq_true rfl, Nat.le_of_ble_eq_true rfl⟩) hS (fun q _ h => hFc q h) hFc (fun r_1 uZ tZ H1 locs ht hvm hw hB hz1 hk1 hS => ?_)
  obtain ⟨hP1, hK1, hD1⟩ := hB
  rw [ht] at hP1
  obtain ⟨hP, hD⟩ := va_join (wr := []) (w1 := [(g, .inr (11, [.ref g0, .ref g1, .ref g2, .int 0, .ref g4, .ref g5, .ref g6, .ref g7, .ref g8, .ref g9, .ref g10, .ref g11, .ref g12])), (g1, .inr (10, [.int 0, .int 0, .int 0, .ref t3, .ref t4, .ref t5, .ref t6, .int 0, .int 0, .ref t9, .ref t10, .int 0, .ref t12, .ref t13, .ref t14, .ref t15, .int 0, .ref t17, .ref t18, .ref t19]))]) hP hD [0, 1] [] rfl rfl (by decide) (by decide) hk1 hFc hP1 hD1
  clear hK1 hP1 hD1 hPc hDc hFc
  clear hk1 hz1 ht hvm
  have hP : va_P D vwCl [(g, .inr (11, [.ref g0, .ref g1, .ref g2, .int 0, .ref g4, .ref g5, .ref g6, .ref g7, .ref g8, .ref g9, .ref g10, .ref g11, .ref g12])), (g1, .inr (10, [.int 0, .int 0, .int 0, .ref t3, .ref t4, .ref t5, .ref t6, .int 0, .int 0, .ref t9, .ref t10, .int 0, .ref t12, .ref t13, .ref t14, .ref t15, .int 0, .ref t17, .ref t18, .ref t19]))] H1 := hP
  have hD : va_D A [(g, .inr (11, [.ref g0, .ref g1, .ref g2, .int 0, .ref g4, .ref g5, .ref g6, .ref g7, .ref g8, .ref g9, .ref g10, .ref g11, .ref g12])), (g1, .inr (10, [.int 0, .int 0, .int 0, .ref t3, .ref t4, .ref t5, .ref t6, .int 0, .int 0, .ref t9, .ref t10, .int 0, .ref t12, .ref t13, .ref t14, .ref t15, .int 0, .ref t17, .ref t18, .ref t19]))] := hD
  generalize H1 = H at hP hS ⊢
  obtain rfl : r_1 = 0 := hw
  refine lv_if_eq (tgt := 17) hx hb dX11_bar_5 (by decide) (fun _ => ?_) (fun c9 => absurd c9 (by decide))
  refine lv_bipush (v := (-2)) hx hb dX11_bar_17 (by decide) ?_
  have hP9 := hP.sub (ws' := [(g, .inr (11, [.ref g0, .ref g1, .ref g2, .int 0, .ref g4, .ref g5, .ref g6, .ref g7, .ref g8, .ref g9, .ref g10, .ref g11, .ref g12])), (g1, .inr (10, [.int 0, .int 0, .int 0, .ref t3, .ref t4, .ref t5, .ref t6, .int 0, .int 0, .ref t9, .ref t10, .int 0, .ref t12, .ref t13, .ref t14, .ref t15, .int 0, .ref t17, .ref t18, .ref t19]))]) [0, 1] rfl
  have hD9 := hD.sub (ws' := [(g, .inr (11, [.ref g0, .ref g1, .ref g2, .int 0, .ref g4, .ref g5, .ref g6, .ref g7, .ref g8, .ref g9, .ref g10, .ref g11, .ref g12])), (g1, .inr (10, [.int 0, .int 0, .int 0, .ref t3, .ref t4, .ref t5, .ref t6, .int 0, .int 0, .ref t9, .ref t10, .int 0, .ref t12, .ref t13, .ref t14, .ref t15, .int 0, .ref t17, .ref t18, .ref t19]))]) [0, 1] (by decide) rfl
  exact W.iret (v := (-2)) hx hb hr (fun tZ ht hW => ⟨⟨(-2), (), rfl, rfl, by rw [ht]; exact hP9, va_K.moved hW.alike hK, hD9⟩, hS.F ht⟩) hS.2.2 dX11_bar_19
set_option maxHeartbeats 4000000 in
set_option maxRecDepth 100000 in
theorem c_X11_holds (l : Launch) (D : va_G) (k : Nat → ClassId) (g : Nat) (g0 : Nat) (g1 : Nat) (g2 : Nat) (g4 : Nat) (g5 : Nat) (g6 : Nat) (g7 : Nat) (g8 : Nat) (g9 : Nat) (g10 : Nat) (g11 : Nat) (g12 : Nat) (t3 : Nat) (t4 : Nat) (t5 : Nat) (t6 : Nat) (t9 : Nat) (t10 : Nat) (t12 : Nat) (t13 : Nat) (t14 : Nat) (t15 : Nat) (t17 : Nat) (t18 : Nat) (t19 : Nat) (p0 : Int32) (p1 : Int32) (sz : Nat) : Met l yX11_holds (ww yX11_holds cX11_holds 4 (some .int)) ({ frames := 1, cells := 0, slots := 0, locals := 21 }) (Pre0 D k [(g, .inr (11, [.ref g0, .ref g1, .ref g2, .int 0, .ref g4, .ref g5, .ref g6, .ref g7, .ref g8, .ref g9, .ref g10, .ref g11, .ref g12])), (g1, .inr (10, [.int 0, .int 0, .int 0, .ref t3, .ref t4, .ref t5, .ref t6, .int 0, .int 0, .ref t9, .ref t10, .int 0, .ref t12, .ref t13, .ref t14, .ref t15, .int 0, .ref t17, .ref t18, .ref t19]))] sz [.ref g, .int p0, .int p1]) (va_Qi (fun (r : Int32) (_ : Unit) => r = (-2)) (fun (_ : Unit) tZ => Bw D k (va_A [(g, .inr (11, [.ref g0, .ref g1, .ref g2, .int 0, .ref g4, .ref g5, .ref g6, .ref g7, .ref g8, .ref g9, .ref g10, .ref g11, .ref g12])), (g1, .inr (10, [.int 0, .int 0, .int 0, .ref t3, .ref t4, .ref t5, .ref t6, .int 0, .int 0, .ref t9, .ref t10, .int 0, .ref t12, .ref t13, .ref t14, .ref t15, .int 0, .ref t17, .ref t18, .ref t19]))] sz) [(g, .inr (11, [.ref g0, .ref g1, .ref g2, .int 0, .ref g4, .ref g5, .ref g6, .ref g7, .ref g8, .ref g9, .ref g10, .ref g11, .ref g12])), (g1, .inr (10, [.int 0, .int 0, .int 0, .ref t3, .ref t4, .ref t5, .ref t6, .int 0, .int 0, .ref t9, .ref t10, .int 0, .ref t12, .ref t13, .ref t14, .ref t15, .int 0, .ref t17, .ref t18, .ref t19]))] tZ) (va_A [(g, .inr (11, [.ref g0, .ref g1, .ref g2, .int 0, .ref g4, .ref g5, .ref g6, .ref g7, .ref g8, .ref g9, .ref g10, .ref g11, .ref g12])), (g1, .inr (10, [.int 0, .int 0, .int 0, .ref t3, .ref t4, .ref t5, .ref t6, .int 0, .int 0, .ref t9, .ref t10, .int 0, .ref t12, .ref t13, .ref t14, .ref t15, .int 0, .ref t17, .ref t18, .ref t19]))] sz)) 0 0 (va_A [(g, .inr (11, [.ref g0, .ref g1, .ref g2, .int 0, .ref g4, .ref g5, .ref g6, .ref g7, .ref g8, .ref g9, .ref g10, .ref g11, .ref g12])), (g1, .inr (10, [.int 0, .int 0, .int 0, .ref t3, .ref t4, .ref t5, .ref t6, .int 0, .int 0, .ref t9, .ref t10, .int 0, .ref t12, .ref t13, .ref t14, .ref t15, .int 0, .ref t17, .ref t18, .ref t19]))] sz) := by
  refine Met.ofW (cc := cX11_holds) (maxL := 4) (ret := (some .int)) (by decide +kernel) rfl ?_
  intro p e s m args below meth c s₁ B hml hv
  obtain ⟨rfl, hsz, hP, hK, hD0, hN⟩ := hv
  have hx := B.exec
  have hb := B.bytes
  have hr := B.returns
  have hts : ∀ w ∈ TT, w.before _ s = true := fun w h => atoms_spec (ws := ww yX11_holds cX11_holds 4 (some .int)) B.pre w (List.mem_cons_of_mem _ h)
  have hown : s.vm.findClass RX11 = some m.cls := findClass_of_methodNamed B.named
  have hlocks := B.notSynchronized
  subst hsz
  have hD := hD0.self (sz := s.heap.size)
  generalize hAe : va_A [(g, .inr (11, [.ref g0, .ref g1, .ref g2, .int 0, .ref g4, .ref g5, .ref g6, .ref g7, .ref g8, .ref g9, .ref g10, .ref g11, .ref g12])), (g1, .inr (10, [.int 0, .int 0, .int 0, .ref t3, .ref t4, .ref t5, .ref t6, .int 0, .int 0, .ref t9, .ref t10, .int 0, .ref t12, .ref t13, .ref t14, .ref t15, .int 0, .ref t17, .ref t18, .ref t19]))] s.heap.size = A at hD ⊢
  have hA : ∀ q : Nat, s.heap.size ≤ q → A q := fun q h => by rw [← hAe]; exact Or.inr h
  have hS : va_S A s.heap s.heap [] := va_S.rf
  have hl := lv_entry ([.ref g, .int p0, .int p1]) (n := 4) (Nat.le_of_ble_eq_true rfl)
  rw [lg_entry_eq]
  generalize (lg_sl ([.ref g, .int p0, .int p1]) ++ List.replicate (4 - (lg_sl ([.ref g, .int p0, .int p1])).length) Slot.unset).toArray = ls at hl ⊢
  have hl : lv_has ls 4 [(0, .ref g), (1, .int p0), (2, .int p1)] := hl
  refine lv_aload_n hx hb dX11_holds_0 rfl (lv_at hl 0 rfl) ?_
  refine lv_iload_n hx hb dX11_holds_1 rfl (lv_at hl 1 rfl) ?_
  have hPc := hP.sub (ws' := [(g, .inr (11, [.ref g0, .ref g1, .ref g2, .int 0, .ref g4, .ref g5, .ref g6, .ref g7, .ref g8, .ref g9, .ref g10, .ref g11, .ref g12])), (g1, .inr (10, [.int 0, .int 0, .int 0, .ref t3, .ref t4, .ref t5, .ref t6, .int 0, .int 0, .ref t9, .ref t10, .int 0, .ref t12, .ref t13, .ref t14, .ref t15, .int 0, .ref t17, .ref t18, .ref t19]))]) [0, 1] rfl
  have hDc := hD.sub (ws' := [(g, .inr (11, [.ref g0, .ref g1, .ref g2, .int 0, .ref g4, .ref g5, .ref g6, .ref g7, .ref g8, .ref g9, .ref g10, .ref g11, .ref g12])), (g1, .inr (10, [.int 0, .int 0, .int 0, .ref t3, .ref t4, .ref t5, .ref t6, .int 0, .int 0, .ref t9, .ref t10, .int 0, .ref t12, .ref t13, .ref t14, .ref t15, .int 0, .ref t17, .ref t18, .ref t19]))]) [0, 1] (by decide) rfl
  have hFc := va_free (wc := [(g, .inr (11, [.ref g0, .ref g1, .ref g2, .int 0, .ref g4, .ref g5, .ref g6, .ref g7, .ref g8, .ref g9, .ref g10, .ref g11, .ref g12])), (g1, .inr (10, [.int 0, .int 0, .int 0, .ref t3, .ref t4, .ref t5, .ref t6, .int 0, .int 0, .ref t9, .ref t10, .int 0, .ref t12, .ref t13, .ref t14, .ref t15, .int 0, .ref t17, .ref t18, .ref t19]))]) hD hS hA [0, 1] rfl
  refine va_calli (va_runV (C := RX11) (As := [.int p0]) (rest := []) ⟨hx, hb, hml, hown, hts⟩ (c_X11_isGate l D k g g0 g1 g2 g4 g5 g6 g7 g8 g9 g10 g11 g12 t3 t4 t5 t6 t9 t10 t12 t13 t14 t15 t17 t18 t19 p0 s.heap.size) (cwV 1 hts (gV tw_3_155 tw_3_157 tw_p_16 tw_1_1 tw_3_158) rfl rfl rfl hdV_X11_isGate ⟨Nat.le_of_ble_eq_true rfl, Nat.le_of_ble_eq_true rfl⟩) (cz_V hK hPc hDc hN (ci := 11) (q0 := 0) rfl rfl [.int p0]) rfl rfl hl.1 rfl (lv_room (Nat.le_of_ble_eq_true rfl)) dX11_holds_2 ⟨Nat.le_of_ble_eq_true rfl, Nat.le_of_ble_eq_true rfl⟩) hS (fun q _ h => hFc q h) hFc (fun r_1 uZ tZ H1 locs ht hvm hw hB hz1 hk1 hS => ?_)
  obtain ⟨hP1, hK1, hD1⟩ := hB
  rw [ht] at hP1
  obtain ⟨hP, hD⟩ := va_join (wr := []) (w1 := [(g, .inr (11, [.ref g0, .ref g1, .ref g2, .int 0, .ref g4, .ref g5, .ref g6, .ref g7, .ref g8, .ref g9, .ref g10, .ref g11, .ref g12])), (g1, .inr (10, [.int 0, .int 0, .int 0, .ref t3, .ref t4, .ref t5, .ref t6, .int 0, .int 0, .ref t9, .ref t10, .int 0, .ref t12, .ref t13, .ref t14, .ref t15, .int 0, .ref t17, .ref t18, .ref t19]))]) hP hD [0, 1] [] rfl rfl (by decide) (by decide) hk1 hFc hP1 hD1
  clear hK1 hP1 hD1 hPc hDc hFc
  clear hk1 hz1 ht hvm
  have hP : va_P D vwCl [(g, .inr (11, [.ref g0, .ref g1, .ref g2, .int 0, .ref g4, .ref g5, .ref g6, .ref g7, .ref g8, .ref g9, .ref g10, .ref g11, .ref g12])), (g1, .inr (10, [.int 0, .int 0, .int 0, .ref t3, .ref t4, .ref t5, .ref t6, .int 0, .int 0, .ref t9, .ref t10, .int 0, .ref t12, .ref t13, .ref t14, .ref t15, .int 0, .ref t17, .ref t18, .ref t19]))] H1 := hP
  have hD : va_D A [(g, .inr (11, [.ref g0, .ref g1, .ref g2, .int 0, .ref g4, .ref g5, .ref g6, .ref g7, .ref g8, .ref g9, .ref g10, .ref g11, .ref g12])), (g1, .inr (10, [.int 0, .int 0, .int 0, .ref t3, .ref t4, .ref t5, .ref t6, .int 0, .int 0, .ref t9, .ref t10, .int 0, .ref t12, .ref t13, .ref t14, .ref t15, .int 0, .ref t17, .ref t18, .ref t19]))] := hD
  generalize H1 = H at hP hS ⊢
  obtain rfl : r_1 = 0 := hw
  refine lv_if_eq (tgt := 18) hx hb dX11_holds_5 (by decide) (fun _ => ?_) (fun c9 => absurd c9 (by decide))
  refine lv_bipush (v := (-2)) hx hb dX11_holds_18 (by decide) ?_
  have hP9 := hP.sub (ws' := [(g, .inr (11, [.ref g0, .ref g1, .ref g2, .int 0, .ref g4, .ref g5, .ref g6, .ref g7, .ref g8, .ref g9, .ref g10, .ref g11, .ref g12])), (g1, .inr (10, [.int 0, .int 0, .int 0, .ref t3, .ref t4, .ref t5, .ref t6, .int 0, .int 0, .ref t9, .ref t10, .int 0, .ref t12, .ref t13, .ref t14, .ref t15, .int 0, .ref t17, .ref t18, .ref t19]))]) [0, 1] rfl
  have hD9 := hD.sub (ws' := [(g, .inr (11, [.ref g0, .ref g1, .ref g2, .int 0, .ref g4, .ref g5, .ref g6, .ref g7, .ref g8, .ref g9, .ref g10, .ref g11, .ref g12])), (g1, .inr (10, [.int 0, .int 0, .int 0, .ref t3, .ref t4, .ref t5, .ref t6, .int 0, .int 0, .ref t9, .ref t10, .int 0, .ref t12, .ref t13, .ref t14, .ref t15, .int 0, .ref t17, .ref t18, .ref t19]))]) [0, 1] (by decide) rfl
  exact W.iret (v := (-2)) hx hb hr (fun tZ ht hW => ⟨⟨(-2), (), rfl, rfl, by rw [ht]; exact hP9, va_K.moved hW.alike hK, hD9⟩, hS.F ht⟩) hS.2.2 dX11_holds_20
set_option maxHeartbeats 4000000 in
set_option maxRecDepth 100000 in
theorem c_X11_undo (l : Launch) (D : va_G) (k : Nat → ClassId) (g : Nat) (g0 : Nat) (g1 : Nat) (g2 : Nat) (g4 : Nat) (g5 : Nat) (g6 : Nat) (g7 : Nat) (g8 : Nat) (g9 : Nat) (g10 : Nat) (g11 : Nat) (g12 : Nat) (t3 : Nat) (t4 : Nat) (t5 : Nat) (t6 : Nat) (t9 : Nat) (t10 : Nat) (t12 : Nat) (t13 : Nat) (t14 : Nat) (t15 : Nat) (t17 : Nat) (t18 : Nat) (t19 : Nat) (sz : Nat) : Met l yX11_undo (ww yX11_undo cX11_undo 1 (some .int)) ({ frames := 1, cells := 0, slots := 0, locals := 20 }) (Pre0 D k [(g, .inr (11, [.ref g0, .ref g1, .ref g2, .int 0, .ref g4, .ref g5, .ref g6, .ref g7, .ref g8, .ref g9, .ref g10, .ref g11, .ref g12])), (g1, .inr (10, [.int 0, .int 0, .int 0, .ref t3, .ref t4, .ref t5, .ref t6, .int 0, .int 0, .ref t9, .ref t10, .int 0, .ref t12, .ref t13, .ref t14, .ref t15, .int 0, .ref t17, .ref t18, .ref t19]))] sz [.ref g]) (va_Qi (fun (r : Int32) (_ : Unit) => r = (-2)) (fun (_ : Unit) tZ => Bw D k (va_A [(g, .inr (11, [.ref g0, .ref g1, .ref g2, .int 0, .ref g4, .ref g5, .ref g6, .ref g7, .ref g8, .ref g9, .ref g10, .ref g11, .ref g12])), (g1, .inr (10, [.int 0, .int 0, .int 0, .ref t3, .ref t4, .ref t5, .ref t6, .int 0, .int 0, .ref t9, .ref t10, .int 0, .ref t12, .ref t13, .ref t14, .ref t15, .int 0, .ref t17, .ref t18, .ref t19]))] sz) [(g, .inr (11, [.ref g0, .ref g1, .ref g2, .int 0, .ref g4, .ref g5, .ref g6, .ref g7, .ref g8, .ref g9, .ref g10, .ref g11, .ref g12])), (g1, .inr (10, [.int 0, .int 0, .int 0, .ref t3, .ref t4, .ref t5, .ref t6, .int 0, .int 0, .ref t9, .ref t10, .int 0, .ref t12, .ref t13, .ref t14, .ref t15, .int 0, .ref t17, .ref t18, .ref t19]))] tZ) (va_A [(g, .inr (11, [.ref g0, .ref g1, .ref g2, .int 0, .ref g4, .ref g5, .ref g6, .ref g7, .ref g8, .ref g9, .ref g10, .ref g11, .ref g12])), (g1, .inr (10, [.int 0, .int 0, .int 0, .ref t3, .ref t4, .ref t5, .ref t6, .int 0, .int 0, .ref t9, .ref t10, .int 0, .ref t12, .ref t13, .ref t14, .ref t15, .int 0, .ref t17, .ref t18, .ref t19]))] sz)) 0 0 (va_A [(g, .inr (11, [.ref g0, .ref g1, .ref g2, .int 0, .ref g4, .ref g5, .ref g6, .ref g7, .ref g8, .ref g9, .ref g10, .ref g11, .ref g12])), (g1, .inr (10, [.int 0, .int 0, .int 0, .ref t3, .ref t4, .ref t5, .ref t6, .int 0, .int 0, .ref t9, .ref t10, .int 0, .ref t12, .ref t13, .ref t14, .ref t15, .int 0, .ref t17, .ref t18, .ref t19]))] sz) := by
  refine Met.ofW (cc := cX11_undo) (maxL := 1) (ret := (some .int)) (by decide +kernel) rfl ?_
  intro p e s m args below meth c s₁ B hml hv
  obtain ⟨rfl, hsz, hP, hK, hD0, hN⟩ := hv
  have hx := B.exec
  have hb := B.bytes
  have hr := B.returns
  have hts : ∀ w ∈ TT, w.before _ s = true := fun w h => atoms_spec (ws := ww yX11_undo cX11_undo 1 (some .int)) B.pre w (List.mem_cons_of_mem _ h)
  have hown : s.vm.findClass RX11 = some m.cls := findClass_of_methodNamed B.named
  have hlocks := B.notSynchronized
  subst hsz
  have hD := hD0.self (sz := s.heap.size)
  generalize hAe : va_A [(g, .inr (11, [.ref g0, .ref g1, .ref g2, .int 0, .ref g4, .ref g5, .ref g6, .ref g7, .ref g8, .ref g9, .ref g10, .ref g11, .ref g12])), (g1, .inr (10, [.int 0, .int 0, .int 0, .ref t3, .ref t4, .ref t5, .ref t6, .int 0, .int 0, .ref t9, .ref t10, .int 0, .ref t12, .ref t13, .ref t14, .ref t15, .int 0, .ref t17, .ref t18, .ref t19]))] s.heap.size = A at hD ⊢
  have hA : ∀ q : Nat, s.heap.size ≤ q → A q := fun q h => by rw [← hAe]; exact Or.inr h
  have hS : va_S A s.heap s.heap [] := va_S.rf
  have hl := lv_entry ([.ref g]) (n := 1) (Nat.le_of_ble_eq_true rfl)
  rw [lg_entry_eq]
  generalize (lg_sl ([.ref g]) ++ List.replicate (1 - (lg_sl ([.ref g])).length) Slot.unset).toArray = ls at hl ⊢
  have hl : lv_has ls 1 [(0, .ref g)] := hl
  refine lv_aload_n hx hb dX11_undo_0 rfl (lv_at hl 0 rfl) ?_
  have hPc := hP.sub (ws' := [(g, .inr (11, [.ref g0, .ref g1, .ref g2, .int 0, .ref g4, .ref g5, .ref g6, .ref g7, .ref g8, .ref g9, .ref g10, .ref g11, .ref g12])), (g1, .inr (10, [.int 0, .int 0, .int 0, .ref t3, .ref t4, .ref t5, .ref t6, .int 0, .int 0, .ref t9, .ref t10, .int 0, .ref t12, .ref t13, .ref t14, .ref t15, .int 0, .ref t17, .ref t18, .ref t19]))]) [0, 1] rfl
  have hDc := hD.sub (ws' := [(g, .inr (11, [.ref g0, .ref g1, .ref g2, .int 0, .ref g4, .ref g5, .ref g6, .ref g7, .ref g8, .ref g9, .ref g10, .ref g11, .ref g12])), (g1, .inr (10, [.int 0, .int 0, .int 0, .ref t3, .ref t4, .ref t5, .ref t6, .int 0, .int 0, .ref t9, .ref t10, .int 0, .ref t12, .ref t13, .ref t14, .ref t15, .int 0, .ref t17, .ref t18, .ref t19]))]) [0, 1] (by decide) rfl
  have hFc := va_free (wc := [(g, .inr (11, [.ref g0, .ref g1, .ref g2, .int 0, .ref g4, .ref g5, .ref g6, .ref g7, .ref g8, .ref g9, .ref g10, .ref g11, .ref g12])), (g1, .inr (10, [.int 0, .int 0, .int 0, .ref t3, .ref t4, .ref t5, .ref t6, .int 0, .int 0, .ref t9, .ref t10, .int 0, .ref t12, .ref t13, .ref t14, .ref t15, .int 0, .ref t17, .ref t18, .ref t19]))]) hD hS hA [0, 1] rfl
  refine va_calli (va_runV (C := RX11) (As := []) (rest := []) ⟨hx, hb, hml, hown, hts⟩ (c_X11_hasNoTown l D k g g0 g1 g2 g4 g5 g6 g7 g8 g9 g10 g11 g12 t3 t4 t5 t6 t9 t10 t12 t13 t14 t15 t17 t18 t19 s.heap.size) (cwV 0 hts (gV tw_3_235 tw_3_237 tw_p_23 tw_1_1 tw_3_238) rfl rfl rfl hdV_X11_hasNoTown ⟨Nat.le_of_ble_eq_true rfl, Nat.le_of_ble_eq_true rfl⟩) (cz_V hK hPc hDc hN (ci := 11) (q0 := 0) rfl rfl []) rfl rfl hl.1 rfl (lv_room (Nat.le_of_ble_eq_true rfl)) dX11_undo_1 ⟨Nat.le_of_ble_eq_true rfl, Nat.le_of_ble_eq_true rfl⟩) hS (fun q _ h => hFc q h) hFc (fun r_1 uZ tZ H1 locs ht hvm hw hB hz1 hk1 hS => ?_)
  obtain ⟨hP1, hK1, hD1⟩ := hB
  rw [ht] at hP1
  obtain ⟨hP, hD⟩ := va_join (wr := []) (w1 := [(g, .inr (11, [.ref g0, .ref g1, .ref g2, .int 0, .ref g4, .ref g5, .ref g6, .ref g7, .ref g8, .ref g9, .ref g10, .ref g11, .ref g12])), (g1, .inr (10, [.int 0, .int 0, .int 0, .ref t3, .ref t4, .ref t5, .ref t6, .int 0, .int 0, .ref t9, .ref t10, .int 0, .ref t12, .ref t13, .ref t14, .ref t15, .int 0, .ref t17, .ref t18, .ref t19]))]) hP hD [0, 1] [] rfl rfl (by decide) (by decide) hk1 hFc hP1 hD1
  clear hK1 hP1 hD1 hPc hDc hFc
  clear hk1 hz1 ht hvm
  have hP : va_P D vwCl [(g, .inr (11, [.ref g0, .ref g1, .ref g2, .int 0, .ref g4, .ref g5, .ref g6, .ref g7, .ref g8, .ref g9, .ref g10, .ref g11, .ref g12])), (g1, .inr (10, [.int 0, .int 0, .int 0, .ref t3, .ref t4, .ref t5, .ref t6, .int 0, .int 0, .ref t9, .ref t10, .int 0, .ref t12, .ref t13, .ref t14, .ref t15, .int 0, .ref t17, .ref t18, .ref t19]))] H1 := hP
  have hD : va_D A [(g, .inr (11, [.ref g0, .ref g1, .ref g2, .int 0, .ref g4, .ref g5, .ref g6, .ref g7, .ref g8, .ref g9, .ref g10, .ref g11, .ref g12])), (g1, .inr (10, [.int 0, .int 0, .int 0, .ref t3, .ref t4, .ref t5, .ref t6, .int 0, .int 0, .ref t9, .ref t10, .int 0, .ref t12, .ref t13, .ref t14, .ref t15, .int 0, .ref t17, .ref t18, .ref t19]))] := hD
  generalize H1 = H at hP hS ⊢
  obtain rfl : r_1 = 1 := hw
  refine lv_if_eq (tgt := 10) hx hb dX11_undo_4 (by decide) (fun c9 => absurd c9 (by decide)) (fun _ => ?_)
  refine lv_bipush (v := (-2)) hx hb dX11_undo_7 (by decide) ?_
  have hP9 := hP.sub (ws' := [(g, .inr (11, [.ref g0, .ref g1, .ref g2, .int 0, .ref g4, .ref g5, .ref g6, .ref g7, .ref g8, .ref g9, .ref g10, .ref g11, .ref g12])), (g1, .inr (10, [.int 0, .int 0, .int 0, .ref t3, .ref t4, .ref t5, .ref t6, .int 0, .int 0, .ref t9, .ref t10, .int 0, .ref t12, .ref t13, .ref t14, .ref t15, .int 0, .ref t17, .ref t18, .ref t19]))]) [0, 1] rfl
  have hD9 := hD.sub (ws' := [(g, .inr (11, [.ref g0, .ref g1, .ref g2, .int 0, .ref g4, .ref g5, .ref g6, .ref g7, .ref g8, .ref g9, .ref g10, .ref g11, .ref g12])), (g1, .inr (10, [.int 0, .int 0, .int 0, .ref t3, .ref t4, .ref t5, .ref t6, .int 0, .int 0, .ref t9, .ref t10, .int 0, .ref t12, .ref t13, .ref t14, .ref t15, .int 0, .ref t17, .ref t18, .ref t19]))]) [0, 1] (by decide) rfl
  exact W.iret (v := (-2)) hx hb hr (fun tZ ht hW => ⟨⟨(-2), (), rfl, rfl, by rw [ht]; exact hP9, va_K.moved hW.alike hK, hD9⟩, hS.F ht⟩) hS.2.2 dX11_undo_9
set_option maxHeartbeats 4000000 in
set_option maxRecDepth 100000 in
theorem c_X11_anew (l : Launch) (D : va_G) (k : Nat → ClassId) (g : Nat) (g0 : Nat) (g1 : Nat) (g2 : Nat) (g4 : Nat) (g5 : Nat) (g6 : Nat) (g7 : Nat) (g8 : Nat) (g9 : Nat) (g10 : Nat) (g11 : Nat) (g12 : Nat) (t3 : Nat) (t4 : Nat) (t5 : Nat) (t6 : Nat) (t9 : Nat) (t10 : Nat) (t12 : Nat) (t13 : Nat) (t14 : Nat) (t15 : Nat) (t17 : Nat) (t18 : Nat) (t19 : Nat) (sz : Nat) : Met l yX11_anew (ww yX11_anew cX11_anew 3 (some .int)) ({ frames := 1, cells := 0, slots := 0, locals := 20 }) (Pre0 D k [(g, .inr (11, [.ref g0, .ref g1, .ref g2, .int 0, .ref g4, .ref g5, .ref g6, .ref g7, .ref g8, .ref g9, .ref g10, .ref g11, .ref g12])), (g1, .inr (10, [.int 0, .int 0, .int 0, .ref t3, .ref t4, .ref t5, .ref t6, .int 0, .int 0, .ref t9, .ref t10, .int 0, .ref t12, .ref t13, .ref t14, .ref t15, .int 0, .ref t17, .ref t18, .ref t19]))] sz [.ref g]) (va_Qi (fun (r : Int32) (_ : Unit) => r = (-2)) (fun (_ : Unit) tZ => Bw D k (va_A [(g, .inr (11, [.ref g0, .ref g1, .ref g2, .int 0, .ref g4, .ref g5, .ref g6, .ref g7, .ref g8, .ref g9, .ref g10, .ref g11, .ref g12])), (g1, .inr (10, [.int 0, .int 0, .int 0, .ref t3, .ref t4, .ref t5, .ref t6, .int 0, .int 0, .ref t9, .ref t10, .int 0, .ref t12, .ref t13, .ref t14, .ref t15, .int 0, .ref t17, .ref t18, .ref t19]))] sz) [(g, .inr (11, [.ref g0, .ref g1, .ref g2, .int 0, .ref g4, .ref g5, .ref g6, .ref g7, .ref g8, .ref g9, .ref g10, .ref g11, .ref g12])), (g1, .inr (10, [.int 0, .int 0, .int 0, .ref t3, .ref t4, .ref t5, .ref t6, .int 0, .int 0, .ref t9, .ref t10, .int 0, .ref t12, .ref t13, .ref t14, .ref t15, .int 0, .ref t17, .ref t18, .ref t19]))] tZ) (va_A [(g, .inr (11, [.ref g0, .ref g1, .ref g2, .int 0, .ref g4, .ref g5, .ref g6, .ref g7, .ref g8, .ref g9, .ref g10, .ref g11, .ref g12])), (g1, .inr (10, [.int 0, .int 0, .int 0, .ref t3, .ref t4, .ref t5, .ref t6, .int 0, .int 0, .ref t9, .ref t10, .int 0, .ref t12, .ref t13, .ref t14, .ref t15, .int 0, .ref t17, .ref t18, .ref t19]))] sz)) 0 0 (va_A [(g, .inr (11, [.ref g0, .ref g1, .ref g2, .int 0, .ref g4, .ref g5, .ref g6, .ref g7, .ref g8, .ref g9, .ref g10, .ref g11, .ref g12])), (g1, .inr (10, [.int 0, .int 0, .int 0, .ref t3, .ref t4, .ref t5, .ref t6, .int 0, .int 0, .ref t9, .ref t10, .int 0, .ref t12, .ref t13, .ref t14, .ref t15, .int 0, .ref t17, .ref t18, .ref t19]))] sz) := by
  refine Met.ofW (cc := cX11_anew) (maxL := 3) (ret := (some .int)) (by decide +kernel) rfl ?_
  intro p e s m args below meth c s₁ B hml hv
  obtain ⟨rfl, hsz, hP, hK, hD0, hN⟩ := hv
  have hx := B.exec
  have hb := B.bytes
  have hr := B.returns
  have hts : ∀ w ∈ TT, w.before _ s = true := fun w h => atoms_spec (ws := ww yX11_anew cX11_anew 3 (some .int)) B.pre w (List.mem_cons_of_mem _ h)
  have hown : s.vm.findClass RX11 = some m.cls := findClass_of_methodNamed B.named
  have hlocks := B.notSynchronized
  subst hsz
  have hD := hD0.self (sz := s.heap.size)
  generalize hAe : va_A [(g, .inr (11, [.ref g0, .ref g1, .ref g2, .int 0, .ref g4, .ref g5, .ref g6, .ref g7, .ref g8, .ref g9, .ref g10, .ref g11, .ref g12])), (g1, .inr (10, [.int 0, .int 0, .int 0, .ref t3, .ref t4, .ref t5, .ref t6, .int 0, .int 0, .ref t9, .ref t10, .int 0, .ref t12, .ref t13, .ref t14, .ref t15, .int 0, .ref t17, .ref t18, .ref t19]))] s.heap.size = A at hD ⊢
  have hA : ∀ q : Nat, s.heap.size ≤ q → A q := fun q h => by rw [← hAe]; exact Or.inr h
  have hS : va_S A s.heap s.heap [] := va_S.rf
  have hl := lv_entry ([.ref g]) (n := 3) (Nat.le_of_ble_eq_true rfl)
  rw [lg_entry_eq]
  generalize (lg_sl ([.ref g]) ++ List.replicate (3 - (lg_sl ([.ref g])).length) Slot.unset).toArray = ls at hl ⊢
  have hl : lv_has ls 3 [(0, .ref g)] := hl
  refine lv_aload_n hx hb dX11_anew_0 rfl (lv_at hl 0 rfl) ?_
  have hPc := hP.sub (ws' := [(g, .inr (11, [.ref g0, .ref g1, .ref g2, .int 0, .ref g4, .ref g5, .ref g6, .ref g7, .ref g8, .ref g9, .ref g10, .ref g11, .ref g12])), (g1, .inr (10, [.int 0, .int 0, .int 0, .ref t3, .ref t4, .ref t5, .ref t6, .int 0, .int 0, .ref t9, .ref t10, .int 0, .ref t12, .ref t13, .ref t14, .ref t15, .int 0, .ref t17, .ref t18, .ref t19]))]) [0, 1] rfl
  have hDc := hD.sub (ws' := [(g, .inr (11, [.ref g0, .ref g1, .ref g2, .int 0, .ref g4, .ref g5, .ref g6, .ref g7, .ref g8, .ref g9, .ref g10, .ref g11, .ref g12])), (g1, .inr (10, [.int 0, .int 0, .int 0, .ref t3, .ref t4, .ref t5, .ref t6, .int 0, .int 0, .ref t9, .ref t10, .int 0, .ref t12, .ref t13, .ref t14, .ref t15, .int 0, .ref t17, .ref t18, .ref t19]))]) [0, 1] (by decide) rfl
  have hFc := va_free (wc := [(g, .inr (11, [.ref g0, .ref g1, .ref g2, .int 0, .ref g4, .ref g5, .ref g6, .ref g7, .ref g8, .ref g9, .ref g10, .ref g11, .ref g12])), (g1, .inr (10, [.int 0, .int 0, .int 0, .ref t3, .ref t4, .ref t5, .ref t6, .int 0, .int 0, .ref t9, .ref t10, .int 0, .ref t12, .ref t13, .ref t14, .ref t15, .int 0, .ref t17, .ref t18, .ref t19]))]) hD hS hA [0, 1] rfl
  refine va_calli (va_runV (C := RX11) (As := []) (rest := []) ⟨hx, hb, hml, hown, hts⟩ (c_X11_hasNoTown l D k g g0 g1 g2 g4 g5 g6 g7 g8 g9 g10 g11 g12 t3 t4 t5 t6 t9 t10 t12 t13 t14 t15 t17 t18 t19 s.heap.size) (cwV 0 hts (gV tw_3_235 tw_3_237 tw_p_23 tw_1_1 tw_3_238) rfl rfl rfl hdV_X11_hasNoTown ⟨Nat.le_of_ble_eq_true rfl, Nat.le_of_ble_eq_true rfl⟩) (cz_V hK hPc hDc hN (ci := 11) (q0 := 0) rfl rfl []) rfl rfl hl.1 rfl (lv_room (Nat.le_of_ble_eq_true rfl)) dX11_anew_1 ⟨Nat.le_of_ble_eq_true rfl, Nat.le_of_ble_eq_true rfl⟩) hS (fun q _ h => hFc q h) hFc (fun r_1 uZ tZ H1 locs ht hvm hw hB hz1 hk1 hS => ?_)
  obtain ⟨hP1, hK1, hD1⟩ := hB
  rw [ht] at hP1
  obtain ⟨hP, hD⟩ := va_join (wr := []) (w1 := [(g, .inr (11, [.ref g0, .ref g1, .ref g2, .int 0, .ref g4, .ref g5, .ref g6, .ref g7, .ref g8, .ref g9, .ref g10, .ref g11, .ref g12])), (g1, .inr (10, [.int 0, .int 0, .int 0, .ref t3, .ref t4, .ref t5, .ref t6, .int 0, .int 0, .ref t9, .ref t10, .int 0, .ref t12, .ref t13, .ref t14, .ref t15, .int 0, .ref t17, .ref t18, .ref t19]))]) hP hD [0, 1] [] rfl rfl (by decide) (by decide) hk1 hFc hP1 hD1
  clear hK1 hP1 hD1 hPc hDc hFc
  clear hk1 hz1 ht hvm
  have hP : va_P D vwCl [(g, .inr (11, [.ref g0, .ref g1, .ref g2, .int 0, .ref g4, .ref g5, .ref g6, .ref g7, .ref g8, .ref g9, .ref g10, .ref g11, .ref g12])), (g1, .inr (10, [.int 0, .int 0, .int 0, .ref t3, .ref t4, .ref t5, .ref t6, .int 0, .int 0, .ref t9, .ref t10, .int 0, .ref t12, .ref t13, .ref t14, .ref t15, .int 0, .ref t17, .ref t18, .ref t19]))] H1 := hP
  have hD : va_D A [(g, .inr (11, [.ref g0, .ref g1, .ref g2, .int 0, .ref g4, .ref g5, .ref g6, .ref g7, .ref g8, .ref g9, .ref g10, .ref g11, .ref g12])), (g1, .inr (10, [.int 0, .int 0, .int 0, .ref t3, .ref t4, .ref t5, .ref t6, .int 0, .int 0, .ref t9, .ref t10, .int 0, .ref t12, .ref t13, .ref t14, .ref t15, .int 0, .ref t17, .ref t18, .ref t19]))] := hD
  generalize H1 = H at hP hS ⊢
  obtain rfl : r_1 = 1 := hw
  refine lv_if_eq (tgt := 10) hx hb dX11_anew_4 (by decide) (fun c9 => absurd c9 (by decide)) (fun _ => ?_)
  refine lv_bipush (v := (-2)) hx hb dX11_anew_7 (by decide) ?_
  have hP9 := hP.sub (ws' := [(g, .inr (11, [.ref g0, .ref g1, .ref g2, .int 0, .ref g4, .ref g5, .ref g6, .ref g7, .ref g8, .ref g9, .ref g10, .ref g11, .ref g12])), (g1, .inr (10, [.int 0, .int 0, .int 0, .ref t3, .ref t4, .ref t5, .ref t6, .int 0, .int 0, .ref t9, .ref t10, .int 0, .ref t12, .ref t13, .ref t14, .ref t15, .int 0, .ref t17, .ref t18, .ref t19]))]) [0, 1] rfl
  have hD9 := hD.sub (ws' := [(g, .inr (11, [.ref g0, .ref g1, .ref g2, .int 0, .ref g4, .ref g5, .ref g6, .ref g7, .ref g8, .ref g9, .ref g10, .ref g11, .ref g12])), (g1, .inr (10, [.int 0, .int 0, .int 0, .ref t3, .ref t4, .ref t5, .ref t6, .int 0, .int 0, .ref t9, .ref t10, .int 0, .ref t12, .ref t13, .ref t14, .ref t15, .int 0, .ref t17, .ref t18, .ref t19]))]) [0, 1] (by decide) rfl
  exact W.iret (v := (-2)) hx hb hr (fun tZ ht hW => ⟨⟨(-2), (), rfl, rfl, by rw [ht]; exact hP9, va_K.moved hW.alike hK, hD9⟩, hS.F ht⟩) hS.2.2 dX11_anew_9
set_option maxHeartbeats 4000000 in
set_option maxRecDepth 100000 in
theorem c_X11_drawn (l : Launch) (D : va_G) (k : Nat → ClassId) (g : Nat) (g0 : Nat) (g1 : Nat) (g2 : Nat) (g4 : Nat) (g5 : Nat) (g6 : Nat) (g7 : Nat) (g8 : Nat) (g9 : Nat) (g10 : Nat) (g11 : Nat) (g12 : Nat) (t3 : Nat) (t4 : Nat) (t5 : Nat) (t6 : Nat) (t9 : Nat) (t10 : Nat) (t12 : Nat) (t13 : Nat) (t14 : Nat) (t15 : Nat) (t17 : Nat) (t18 : Nat) (t19 : Nat) (p0 : Int32) (p1 : Int32) (sz : Nat) : Met l yX11_drawn (ww yX11_drawn cX11_drawn 4 (some .int)) ({ frames := 1, cells := 0, slots := 0, locals := 20 }) (Pre0 D k [(g, .inr (11, [.ref g0, .ref g1, .ref g2, .int 0, .ref g4, .ref g5, .ref g6, .ref g7, .ref g8, .ref g9, .ref g10, .ref g11, .ref g12])), (g1, .inr (10, [.int 0, .int 0, .int 0, .ref t3, .ref t4, .ref t5, .ref t6, .int 0, .int 0, .ref t9, .ref t10, .int 0, .ref t12, .ref t13, .ref t14, .ref t15, .int 0, .ref t17, .ref t18, .ref t19]))] sz [.ref g, .int p0, .int p1]) (va_Qi (fun (r : Int32) (_ : Unit) => r = (-2)) (fun (_ : Unit) tZ => Bw D k (va_A [(g, .inr (11, [.ref g0, .ref g1, .ref g2, .int 0, .ref g4, .ref g5, .ref g6, .ref g7, .ref g8, .ref g9, .ref g10, .ref g11, .ref g12])), (g1, .inr (10, [.int 0, .int 0, .int 0, .ref t3, .ref t4, .ref t5, .ref t6, .int 0, .int 0, .ref t9, .ref t10, .int 0, .ref t12, .ref t13, .ref t14, .ref t15, .int 0, .ref t17, .ref t18, .ref t19]))] sz) [(g, .inr (11, [.ref g0, .ref g1, .ref g2, .int 0, .ref g4, .ref g5, .ref g6, .ref g7, .ref g8, .ref g9, .ref g10, .ref g11, .ref g12])), (g1, .inr (10, [.int 0, .int 0, .int 0, .ref t3, .ref t4, .ref t5, .ref t6, .int 0, .int 0, .ref t9, .ref t10, .int 0, .ref t12, .ref t13, .ref t14, .ref t15, .int 0, .ref t17, .ref t18, .ref t19]))] tZ) (va_A [(g, .inr (11, [.ref g0, .ref g1, .ref g2, .int 0, .ref g4, .ref g5, .ref g6, .ref g7, .ref g8, .ref g9, .ref g10, .ref g11, .ref g12])), (g1, .inr (10, [.int 0, .int 0, .int 0, .ref t3, .ref t4, .ref t5, .ref t6, .int 0, .int 0, .ref t9, .ref t10, .int 0, .ref t12, .ref t13, .ref t14, .ref t15, .int 0, .ref t17, .ref t18, .ref t19]))] sz)) 0 0 (va_A [(g, .inr (11, [.ref g0, .ref g1, .ref g2, .int 0, .ref g4, .ref g5, .ref g6, .ref g7, .ref g8, .ref g9, .ref g10, .ref g11, .ref g12])), (g1, .inr (10, [.int 0, .int 0, .int 0, .ref t3, .ref t4, .ref t5, .ref t6, .int 0, .int 0, .ref t9, .ref t10, .int 0, .ref t12, .ref t13, .ref t14, .ref t15, .int 0, .ref t17, .ref t18, .ref t19]))] sz) := by
  refine Met.ofW (cc := cX11_drawn) (maxL := 4) (ret := (some .int)) (by decide +kernel) rfl ?_
  intro p e s m args below meth c s₁ B hml hv
  obtain ⟨rfl, hsz, hP, hK, hD0, hN⟩ := hv
  have hx := B.exec
  have hb := B.bytes
  have hr := B.returns
  have hts : ∀ w ∈ TT, w.before _ s = true := fun w h => atoms_spec (ws := ww yX11_drawn cX11_drawn 4 (some .int)) B.pre w (List.mem_cons_of_mem _ h)
  have hown : s.vm.findClass RX11 = some m.cls := findClass_of_methodNamed B.named
  have hlocks := B.notSynchronized
  subst hsz
  have hD := hD0.self (sz := s.heap.size)
  generalize hAe : va_A [(g, .inr (11, [.ref g0, .ref g1, .ref g2, .int 0, .ref g4, .ref g5, .ref g6, .ref g7, .ref g8, .ref g9, .ref g10, .ref g11, .ref g12])), (g1, .inr (10, [.int 0, .int 0, .int 0, .ref t3, .ref t4, .ref t5, .ref t6, .int 0, .int 0, .ref t9, .ref t10, .int 0, .ref t12, .ref t13, .ref t14, .ref t15, .int 0, .ref t17, .ref t18, .ref t19]))] s.heap.size = A at hD ⊢
  have hA : ∀ q : Nat, s.heap.size ≤ q → A q := fun q h => by rw [← hAe]; exact Or.inr h
  have hS : va_S A s.heap s.heap [] := va_S.rf
  have hl := lv_entry ([.ref g, .int p0, .int p1]) (n := 4) (Nat.le_of_ble_eq_true rfl)
  rw [lg_entry_eq]
  generalize (lg_sl ([.ref g, .int p0, .int p1]) ++ List.replicate (4 - (lg_sl ([.ref g, .int p0, .int p1])).length) Slot.unset).toArray = ls at hl ⊢
  have hl : lv_has ls 4 [(0, .ref g), (1, .int p0), (2, .int p1)] := hl
  refine lv_aload_n hx hb dX11_drawn_0 rfl (lv_at hl 0 rfl) ?_
  have hPc := hP.sub (ws' := [(g, .inr (11, [.ref g0, .ref g1, .ref g2, .int 0, .ref g4, .ref g5, .ref g6, .ref g7, .ref g8, .ref g9, .ref g10, .ref g11, .ref g12])), (g1, .inr (10, [.int 0, .int 0, .int 0, .ref t3, .ref t4, .ref t5, .ref t6, .int 0, .int 0, .ref t9, .ref t10, .int 0, .ref t12, .ref t13, .ref t14, .ref t15, .int 0, .ref t17, .ref t18, .ref t19]))]) [0, 1] rfl
  have hDc := hD.sub (ws' := [(g, .inr (11, [.ref g0, .ref g1, .ref g2, .int 0, .ref g4, .ref g5, .ref g6, .ref g7, .ref g8, .ref g9, .ref g10, .ref g11, .ref g12])), (g1, .inr (10, [.int 0, .int 0, .int 0, .ref t3, .ref t4, .ref t5, .ref t6, .int 0, .int 0, .ref t9, .ref t10, .int 0, .ref t12, .ref t13, .ref t14, .ref t15, .int 0, .ref t17, .ref t18, .ref t19]))]) [0, 1] (by decide) rfl
  have hFc := va_free (wc := [(g, .inr (11, [.ref g0, .ref g1, .ref g2, .int 0, .ref g4, .ref g5, .ref g6, .ref g7, .ref g8, .ref g9, .ref g10, .ref g11, .ref g12])), (g1, .inr (10, [.int 0, .int 0, .int 0, .ref t3, .ref t4, .ref t5, .ref t6, .int 0, .int 0, .ref t9, .ref t10, .int 0, .ref t12, .ref t13, .ref t14, .ref t15, .int 0, .ref t17, .ref t18, .ref t19]))]) hD hS hA [0, 1] rfl
  refine va_calli (va_runV (C := RX11) (As := []) (rest := []) ⟨hx, hb, hml, hown, hts⟩ (c_X11_hasNoTown l D k g g0 g1 g2 g4 g5 g6 g7 g8 g9 g10 g11 g12 t3 t4 t5 t6 t9 t10 t12 t13 t14 t15 t17 t18 t19 s.heap.size) (cwV 0 hts (gV tw_3_235 tw_3_237 tw_p_23 tw_1_1 tw_3_238) rfl rfl rfl hdV_X11_hasNoTown ⟨Nat.le_of_ble_eq_true rfl, Nat.le_of_ble_eq_true rfl⟩) (cz_V hK hPc hDc hN (ci := 11) (q0 := 0) rfl rfl []) rfl rfl hl.1 rfl (lv_room (Nat.le_of_ble_eq_true rfl)) dX11_drawn_1 ⟨Nat.le_of_ble_eq_true rfl, Nat.le_of_ble_eq_true rfl⟩) hS (fun q _ h => hFc q h) hFc (fun r_1 uZ tZ H1 locs ht hvm hw hB hz1 hk1 hS => ?_)
  obtain ⟨hP1, hK1, hD1⟩ := hB
  rw [ht] at hP1
  obtain ⟨hP, hD⟩ := va_join (wr := []) (w1 := [(g, .inr (11, [.ref g0, .ref g1, .ref g2, .int 0, .ref g4, .ref g5, .ref g6, .ref g7, .ref g8, .ref g9, .ref g10, .ref g11, .ref g12])), (g1, .inr (10, [.int 0, .int 0, .int 0, .ref t3, .ref t4, .ref t5, .ref t6, .int 0, .int 0, .ref t9, .ref t10, .int 0, .ref t12, .ref t13, .ref t14, .ref t15, .int 0, .ref t17, .ref t18, .ref t19]))]) hP hD [0, 1] [] rfl rfl (by decide) (by decide) hk1 hFc hP1 hD1
  clear hK1 hP1 hD1 hPc hDc hFc
  clear hk1 hz1 ht hvm
  have hP : va_P D vwCl [(g, .inr (11, [.ref g0, .ref g1, .ref g2, .int 0, .ref g4, .ref g5, .ref g6, .ref g7, .ref g8, .ref g9, .ref g10, .ref g11, .ref g12])), (g1, .inr (10, [.int 0, .int 0, .int 0, .ref t3, .ref t4, .ref t5, .ref t6, .int 0, .int 0, .ref t9, .ref t10, .int 0, .ref t12, .ref t13, .ref t14, .ref t15, .int 0, .ref t17, .ref t18, .ref t19]))] H1 := hP
  have hD : va_D A [(g, .inr (11, [.ref g0, .ref g1, .ref g2, .int 0, .ref g4, .ref g5, .ref g6, .ref g7, .ref g8, .ref g9, .ref g10, .ref g11, .ref g12])), (g1, .inr (10, [.int 0, .int 0, .int 0, .ref t3, .ref t4, .ref t5, .ref t6, .int 0, .int 0, .ref t9, .ref t10, .int 0, .ref t12, .ref t13, .ref t14, .ref t15, .int 0, .ref t17, .ref t18, .ref t19]))] := hD
  generalize H1 = H at hP hS ⊢
  obtain rfl : r_1 = 1 := hw
  refine lv_if_ne (tgt := 23) hx hb dX11_drawn_4 (by decide) (fun _ => ?_) (fun c9 => absurd c9 (by decide))
  refine lv_bipush (v := (-2)) hx hb dX11_drawn_23 (by decide) ?_
  have hP9 := hP.sub (ws' := [(g, .inr (11, [.ref g0, .ref g1, .ref g2, .int 0, .ref g4, .ref g5, .ref g6, .ref g7, .ref g8, .ref g9, .ref g10, .ref g11, .ref g12])), (g1, .inr (10, [.int 0, .int 0, .int 0, .ref t3, .ref t4, .ref t5, .ref t6, .int 0, .int 0, .ref t9, .ref t10, .int 0, .ref t12, .ref t13, .ref t14, .ref t15, .int 0, .ref t17, .ref t18, .ref t19]))]) [0, 1] rfl
  have hD9 := hD.sub (ws' := [(g, .inr (11, [.ref g0, .ref g1, .ref g2, .int 0, .ref g4, .ref g5, .ref g6, .ref g7, .ref g8, .ref g9, .ref g10, .ref g11, .ref g12])), (g1, .inr (10, [.int 0, .int 0, .int 0, .ref t3, .ref t4, .ref t5, .ref t6, .int 0, .int 0, .ref t9, .ref t10, .int 0, .ref t12, .ref t13, .ref t14, .ref t15, .int 0, .ref t17, .ref t18, .ref t19]))]) [0, 1] (by decide) rfl
  exact W.iret (v := (-2)) hx hb hr (fun tZ ht hW => ⟨⟨(-2), (), rfl, rfl, by rw [ht]; exact hP9, va_K.moved hW.alike hK, hD9⟩, hS.F ht⟩) hS.2.2 dX11_drawn_25
set_option maxHeartbeats 4000000 in
set_option maxRecDepth 100000 in
theorem c_X11_luck (l : Launch) (D : va_G) (k : Nat → ClassId) (g : Nat) (g0 : Nat) (g1 : Nat) (g2 : Nat) (g4 : Nat) (g5 : Nat) (g6 : Nat) (g7 : Nat) (g8 : Nat) (g9 : Nat) (g10 : Nat) (g11 : Nat) (g12 : Nat) (t3 : Nat) (t4 : Nat) (t5 : Nat) (t6 : Nat) (t9 : Nat) (t10 : Nat) (t12 : Nat) (t13 : Nat) (t14 : Nat) (t15 : Nat) (t17 : Nat) (t18 : Nat) (t19 : Nat) (p0 : Int32) (p1 : Int32) (p2 : Int32) (p3 : Int32) (sz : Nat) : Met l yX11_luck (ww yX11_luck cX11_luck 7 (some .int)) ({ frames := 1, cells := 0, slots := 0, locals := 21 }) (Pre0 D k [(g, .inr (11, [.ref g0, .ref g1, .ref g2, .int 0, .ref g4, .ref g5, .ref g6, .ref g7, .ref g8, .ref g9, .ref g10, .ref g11, .ref g12])), (g1, .inr (10, [.int 0, .int 0, .int 0, .ref t3, .ref t4, .ref t5, .ref t6, .int 0, .int 0, .ref t9, .ref t10, .int 0, .ref t12, .ref t13, .ref t14, .ref t15, .int 0, .ref t17, .ref t18, .ref t19]))] sz [.ref g, .int p0, .int p1, .int p2, .int p3]) (va_Qi (fun (r : Int32) (_ : Unit) => r = (-2)) (fun (_ : Unit) tZ => Bw D k (va_A [(g, .inr (11, [.ref g0, .ref g1, .ref g2, .int 0, .ref g4, .ref g5, .ref g6, .ref g7, .ref g8, .ref g9, .ref g10, .ref g11, .ref g12])), (g1, .inr (10, [.int 0, .int 0, .int 0, .ref t3, .ref t4, .ref t5, .ref t6, .int 0, .int 0, .ref t9, .ref t10, .int 0, .ref t12, .ref t13, .ref t14, .ref t15, .int 0, .ref t17, .ref t18, .ref t19]))] sz) [(g, .inr (11, [.ref g0, .ref g1, .ref g2, .int 0, .ref g4, .ref g5, .ref g6, .ref g7, .ref g8, .ref g9, .ref g10, .ref g11, .ref g12])), (g1, .inr (10, [.int 0, .int 0, .int 0, .ref t3, .ref t4, .ref t5, .ref t6, .int 0, .int 0, .ref t9, .ref t10, .int 0, .ref t12, .ref t13, .ref t14, .ref t15, .int 0, .ref t17, .ref t18, .ref t19]))] tZ) (va_A [(g, .inr (11, [.ref g0, .ref g1, .ref g2, .int 0, .ref g4, .ref g5, .ref g6, .ref g7, .ref g8, .ref g9, .ref g10, .ref g11, .ref g12])), (g1, .inr (10, [.int 0, .int 0, .int 0, .ref t3, .ref t4, .ref t5, .ref t6, .int 0, .int 0, .ref t9, .ref t10, .int 0, .ref t12, .ref t13, .ref t14, .ref t15, .int 0, .ref t17, .ref t18, .ref t19]))] sz)) 0 0 (va_A [(g, .inr (11, [.ref g0, .ref g1, .ref g2, .int 0, .ref g4, .ref g5, .ref g6, .ref g7, .ref g8, .ref g9, .ref g10, .ref g11, .ref g12])), (g1, .inr (10, [.int 0, .int 0, .int 0, .ref t3, .ref t4, .ref t5, .ref t6, .int 0, .int 0, .ref t9, .ref t10, .int 0, .ref t12, .ref t13, .ref t14, .ref t15, .int 0, .ref t17, .ref t18, .ref t19]))] sz) := by
  refine Met.ofW (cc := cX11_luck) (maxL := 7) (ret := (some .int)) (by decide +kernel) rfl ?_
  intro p e s m args below meth c s₁ B hml hv
  obtain ⟨rfl, hsz, hP, hK, hD0, hN⟩ := hv
  have hx := B.exec
  have hb := B.bytes
  have hr := B.returns
  have hts : ∀ w ∈ TT, w.before _ s = true := fun w h => atoms_spec (ws := ww yX11_luck cX11_luck 7 (some .int)) B.pre w (List.mem_cons_of_mem _ h)
  have hown : s.vm.findClass RX11 = some m.cls := findClass_of_methodNamed B.named
  have hlocks := B.notSynchronized
  subst hsz
  have hD := hD0.self (sz := s.heap.size)
  generalize hAe : va_A [(g, .inr (11, [.ref g0, .ref g1, .ref g2, .int 0, .ref g4, .ref g5, .ref g6, .ref g7, .ref g8, .ref g9, .ref g10, .ref g11, .ref g12])), (g1, .inr (10, [.int 0, .int 0, .int 0, .ref t3, .ref t4, .ref t5, .ref t6, .int 0, .int 0, .ref t9, .ref t10, .int 0, .ref t12, .ref t13, .ref t14, .ref t15, .int 0, .ref t17, .ref t18, .ref t19]))] s.heap.size = A at hD ⊢
  have hA : ∀ q : Nat, s.heap.size ≤ q → A q := fun q h => by rw [← hAe]; exact Or.inr h
  have hS : va_S A s.heap s.heap [] := va_S.rf
  have hl := lv_entry ([.ref g, .int p0, .int p1, .int p2, .int p3]) (n := 7) (Nat.le_of_ble_eq_true rfl)
  rw [lg_entry_eq]
  generalize (lg_sl ([.ref g, .int p0, .int p1, .int p2, .int p3]) ++ List.replicate (7 - (lg_sl ([.ref g, .int p0, .int p1, .int p2, .int p3])).length) Slot.unset).toArray = ls at hl ⊢
  have hl : lv_has ls 7 [(0, .ref g), (1, .int p0), (2, .int p1), (3, .int p2), (4, .int p3)] := hl
  refine lv_iload_n hx hb dX11_luck_0 rfl (lv_at hl 1 rfl) ?_
  have hPc := hP.sub (ws' := []) [] rfl
  have hDc := hD.sub (ws' := []) [] (by decide) rfl
  have hFc := va_free (wc := []) hD hS hA [] rfl
  refine va_calli (va_runS (As := [.int p0]) (rest := []) ⟨hx, hb, hml, hown, hts⟩ (c_X11_isSeed l D k p0 s.heap.size) (va_cwS 1 hts (gS tw_5_206 tw_5_207 tw_1_1 tw_5_208) rfl rfl rfl hdS_X11_isSeed ⟨Nat.le_of_ble_eq_true rfl, Nat.le_of_ble_eq_true rfl⟩) (cz_S hK hPc hDc hN [.int p0]) rfl rfl hl.1 rfl (lv_room (Nat.le_of_ble_eq_true rfl)) dX11_luck_1 ⟨Nat.le_of_ble_eq_true rfl, Nat.le_of_ble_eq_true rfl⟩) hS (fun q _ h => hFc q h) hFc (fun r_1 uZ tZ H1 locs ht hvm hw hB hz1 hk1 hS => ?_)
  obtain ⟨hP1, hK1, hD1⟩ := hB
  rw [ht] at hP1
  obtain ⟨hP, hD⟩ := va_join (wr := [(g, .inr (11, [.ref g0, .ref g1, .ref g2, .int 0, .ref g4, .ref g5, .ref g6, .ref g7, .ref g8, .ref g9, .ref g10, .ref g11, .ref g12])), (g1, .inr (10, [.int 0, .int 0, .int 0, .ref t3, .ref t4, .ref t5, .ref t6, .int 0, .int 0, .ref t9, .ref t10, .int 0, .ref t12, .ref t13, .ref t14, .ref t15, .int 0, .ref t17, .ref t18, .ref t19]))]) (w1 := []) hP hD [] [0, 1] rfl rfl (by decide) (by decide) hk1 hFc hP1 hD1
  clear hK1 hP1 hD1 hPc hDc hFc
  clear hk1 hz1 ht hvm
  have hP : va_P D vwCl [(g, .inr (11, [.ref g0, .ref g1, .ref g2, .int 0, .ref g4, .ref g5, .ref g6, .ref g7, .ref g8, .ref g9, .ref g10, .ref g11, .ref g12])), (g1, .inr (10, [.int 0, .int 0, .int 0, .ref t3, .ref t4, .ref t5, .ref t6, .int 0, .int 0, .ref t9, .ref t10, .int 0, .ref t12, .ref t13, .ref t14, .ref t15, .int 0, .ref t17, .ref t18, .ref t19]))] H1 := hP
  have hD : va_D A [(g, .inr (11, [.ref g0, .ref g1, .ref g2, .int 0, .ref g4, .ref g5, .ref g6, .ref g7, .ref g8, .ref g9, .ref g10, .ref g11, .ref g12])), (g1, .inr (10, [.int 0, .int 0, .int 0, .ref t3, .ref t4, .ref t5, .ref t6, .int 0, .int 0, .ref t9, .ref t10, .int 0, .ref t12, .ref t13, .ref t14, .ref t15, .int 0, .ref t17, .ref t18, .ref t19]))] := hD
  generalize H1 = H at hP hS ⊢
  have hw_2 : r_1.toInt = 0 ∨ r_1.toInt = 1 := hw
  clear hw
  refine lv_if_eq (tgt := 34) hx hb dX11_luck_4 (by decide) (fun h_3 => ?_) (fun h_3 => ?_)
  · skip
    have zh_3 : r_1.toInt = 0 := z_eq h_3
    refine lv_bipush (v := (-2)) hx hb dX11_luck_34 (by decide) ?_
    have hP9 := hP.sub (ws' := [(g, .inr (11, [.ref g0, .ref g1, .ref g2, .int 0, .ref g4, .ref g5, .ref g6, .ref g7, .ref g8, .ref g9, .ref g10, .ref g11, .ref g12])), (g1, .inr (10, [.int 0, .int 0, .int 0, .ref t3, .ref t4, .ref t5, .ref t6, .int 0, .int 0, .ref t9, .ref t10, .int 0, .ref t12, .ref t13, .ref t14, .ref t15, .int 0, .ref t17, .ref t18, .ref t19]))]) [0, 1] rfl
    have hD9 := hD.sub (ws' := [(g, .inr (11, [.ref g0, .ref g1, .ref g2, .int 0, .ref g4, .ref g5, .ref g6, .ref g7, .ref g8, .ref g9, .ref g10, .ref g11, .ref g12])), (g1, .inr (10, [.int 0, .int 0, .int 0, .ref t3, .ref t4, .ref t5, .ref t6, .int 0, .int 0, .ref t9, .ref t10, .int 0, .ref t12, .ref t13, .ref t14, .ref t15, .int 0, .ref t17, .ref t18, .ref t19]))]) [0, 1] (by decide) rfl
    exact W.iret (v := (-2)) hx hb hr (fun tZ ht hW => ⟨⟨(-2), (), rfl, rfl, by rw [ht]; exact hP9, va_K.moved hW.alike hK, hD9⟩, hS.F ht⟩) hS.2.2 dX11_luck_36
  · skip
    have zh_3 : ¬ r_1.toInt = 0 := z_ne h_3
    refine lv_iload_n hx hb dX11_luck_7 rfl (lv_at hl 2 rfl) ?_
    refine lv_iconst (v := 1) hx hb dX11_luck_8 (by decide) ?_
    refine lv_icmp_lt (tgt := 34) hx hb dX11_luck_9 (by decide) (fun h_4 => ?_) (fun h_4 => ?_)
    · skip
      have zh_4 : p1.toInt < 1 := z_lt h_4
      refine lv_bipush (v := (-2)) hx hb dX11_luck_34 (by decide) ?_
      have hP9 := hP.sub (ws' := [(g, .inr (11, [.ref g0, .ref g1, .ref g2, .int 0, .ref g4, .ref g5, .ref g6, .ref g7, .ref g8, .ref g9, .ref g10, .ref g11, .ref g12])), (g1, .inr (10, [.int 0, .int 0, .int 0, .ref t3, .ref t4, .ref t5, .ref t6, .int 0, .int 0, .ref t9, .ref t10, .int 0, .ref t12, .ref t13, .ref t14, .ref t15, .int 0, .ref t17, .ref t18, .ref t19]))]) [0, 1] rfl
      have hD9 := hD.sub (ws' := [(g, .inr (11, [.ref g0, .ref g1, .ref g2, .int 0, .ref g4, .ref g5, .ref g6, .ref g7, .ref g8, .ref g9, .ref g10, .ref g11, .ref g12])), (g1, .inr (10, [.int 0, .int 0, .int 0, .ref t3, .ref t4, .ref t5, .ref t6, .int 0, .int 0, .ref t9, .ref t10, .int 0, .ref t12, .ref t13, .ref t14, .ref t15, .int 0, .ref t17, .ref t18, .ref t19]))]) [0, 1] (by decide) rfl
      exact W.iret (v := (-2)) hx hb hr (fun tZ ht hW => ⟨⟨(-2), (), rfl, rfl, by rw [ht]; exact hP9, va_K.moved hW.alike hK, hD9⟩, hS.F ht⟩) hS.2.2 dX11_luck_36
    · skip
      have zh_4 : 1 ≤ p1.toInt := z_nlt h_4
      refine lv_iload_n hx hb dX11_luck_12 rfl (lv_at hl 2 rfl) ?_
      refine lv_bipush (v := 20) hx hb dX11_luck_13 (by decide) ?_
      refine lv_icmp_gt (tgt := 34) hx hb dX11_luck_15 (by decide) (fun h_5 => ?_) (fun h_5 => ?_)
      · skip
        have zh_5 : 20 < p1.toInt := z_lt h_5
        refine lv_bipush (v := (-2)) hx hb dX11_luck_34 (by decide) ?_
        have hP9 := hP.sub (ws' := [(g, .inr (11, [.ref g0, .ref g1, .ref g2, .int 0, .ref g4, .ref g5, .ref g6, .ref g7, .ref g8, .ref g9, .ref g10, .ref g11, .ref g12])), (g1, .inr (10, [.int 0, .int 0, .int 0, .ref t3, .ref t4, .ref t5, .ref t6, .int 0, .int 0, .ref t9, .ref t10, .int 0, .ref t12, .ref t13, .ref t14, .ref t15, .int 0, .ref t17, .ref t18, .ref t19]))]) [0, 1] rfl
        have hD9 := hD.sub (ws' := [(g, .inr (11, [.ref g0, .ref g1, .ref g2, .int 0, .ref g4, .ref g5, .ref g6, .ref g7, .ref g8, .ref g9, .ref g10, .ref g11, .ref g12])), (g1, .inr (10, [.int 0, .int 0, .int 0, .ref t3, .ref t4, .ref t5, .ref t6, .int 0, .int 0, .ref t9, .ref t10, .int 0, .ref t12, .ref t13, .ref t14, .ref t15, .int 0, .ref t17, .ref t18, .ref t19]))]) [0, 1] (by decide) rfl
        exact W.iret (v := (-2)) hx hb hr (fun tZ ht hW => ⟨⟨(-2), (), rfl, rfl, by rw [ht]; exact hP9, va_K.moved hW.alike hK, hD9⟩, hS.F ht⟩) hS.2.2 dX11_luck_36
      · skip
        have zh_5 : p1.toInt ≤ 20 := z_nlt h_5
        refine lv_aload_n hx hb dX11_luck_18 rfl (lv_at hl 0 rfl) ?_
        refine lv_iload_n hx hb dX11_luck_19 rfl (lv_at hl 3 rfl) ?_
        have hPc := hP.sub (ws' := [(g, .inr (11, [.ref g0, .ref g1, .ref g2, .int 0, .ref g4, .ref g5, .ref g6, .ref g7, .ref g8, .ref g9, .ref g10, .ref g11, .ref g12])), (g1, .inr (10, [.int 0, .int 0, .int 0, .ref t3, .ref t4, .ref t5, .ref t6, .int 0, .int 0, .ref t9, .ref t10, .int 0, .ref t12, .ref t13, .ref t14, .ref t15, .int 0, .ref t17, .ref t18, .ref t19]))]) [0, 1] rfl
        have hDc := hD.sub (ws' := [(g, .inr (11, [.ref g0, .ref g1, .ref g2, .int 0, .ref g4, .ref g5, .ref g6, .ref g7, .ref g8, .ref g9, .ref g10, .ref g11, .ref g12])), (g1, .inr (10, [.int 0, .int 0, .int 0, .ref t3, .ref t4, .ref t5, .ref t6, .int 0, .int 0, .ref t9, .ref t10, .int 0, .ref t12, .ref t13, .ref t14, .ref t15, .int 0, .ref t17, .ref t18, .ref t19]))]) [0, 1] (by decide) rfl
        have hFc := va_free (wc := [(g, .inr (11, [.ref g0, .ref g1, .ref g2, .int 0, .ref g4, .ref g5, .ref g6, .ref g7, .ref g8, .ref g9, .ref g10, .ref g11, .ref g12])), (g1, .inr (10, [.int 0, .int 0, .int 0, .ref t3, .ref t4, .ref t5, .ref t6, .int 0, .int 0, .ref t9, .ref t10, .int 0, .ref t12, .ref t13, .ref t14, .ref t15, .int 0, .ref t17, .ref t18, .ref t19]))]) hD hS hA [0, 1] rfl
        refine va_calli (va_runV (C := RX11) (As := [.int p2]) (rest := []) ⟨hx, hb, hml, hown, hts⟩ (c_X11_isStreet l D k g g0 g1 g2 g4 g5 g6 g7 g8 g9 g10 g11 g12 t3 t4 t5 t6 t9 t10 t12 t13 t14 t15 t17 t18 t19 p2 H.size) (cwV 1 hts (gV tw_3_171 tw_3_173 tw_p_18 tw_1_1 tw_3_174) rfl rfl rfl hdV_X11_isStreet ⟨Nat.le_of_ble_eq_true rfl, Nat.le_of_ble_eq_true rfl⟩) (cz_V hK hPc hDc hN (ci := 11) (q0 := 0) rfl rfl [.int p2]) rfl rfl hl.1 rfl (lv_room (Nat.le_of_ble_eq_true rfl)) dX11_luck_20 ⟨Nat.le_of_ble_eq_true rfl, Nat.le_of_ble_eq_true rfl⟩) hS (fun q _ h => hFc q h) hFc (fun r_6 uZ tZ H1 locs ht hvm hw hB hz1 hk1 hS => ?_)
        obtain ⟨hP1, hK1, hD1⟩ := hB
        rw [ht] at hP1
        obtain ⟨hP, hD⟩ := va_join (wr := []) (w1 := [(g, .inr (11, [.ref g0, .ref g1, .ref g2, .int 0, .ref g4, .ref g5, .ref g6, .ref g7, .ref g8, .ref g9, .ref g10, .ref g11, .ref g12])), (g1, .inr (10, [.int 0, .int 0, .int 0, .ref t3, .ref t4, .ref t5, .ref t6, .int 0, .int 0, .ref t9, .ref t10, .int 0, .ref t12, .ref t13, .ref t14, .ref t15, .int 0, .ref t17, .ref t18, .ref t19]))]) hP hD [0, 1] [] rfl rfl (by decide) (by decide) hk1 hFc hP1 hD1
        clear hK1 hP1 hD1 hPc hDc hFc
        clear hk1 hz1 ht hvm
        have hP : va_P D vwCl [(g, .inr (11, [.ref g0, .ref g1, .ref g2, .int 0, .ref g4, .ref g5, .ref g6, .ref g7, .ref g8, .ref g9, .ref g10, .ref g11, .ref g12])), (g1, .inr (10, [.int 0, .int 0, .int 0, .ref t3, .ref t4, .ref t5, .ref t6, .int 0, .int 0, .ref t9, .ref t10, .int 0, .ref t12, .ref t13, .ref t14, .ref t15, .int 0, .ref t17, .ref t18, .ref t19]))] H1 := hP
        have hD : va_D A [(g, .inr (11, [.ref g0, .ref g1, .ref g2, .int 0, .ref g4, .ref g5, .ref g6, .ref g7, .ref g8, .ref g9, .ref g10, .ref g11, .ref g12])), (g1, .inr (10, [.int 0, .int 0, .int 0, .ref t3, .ref t4, .ref t5, .ref t6, .int 0, .int 0, .ref t9, .ref t10, .int 0, .ref t12, .ref t13, .ref t14, .ref t15, .int 0, .ref t17, .ref t18, .ref t19]))] := hD
        generalize H1 = H at hP hS ⊢
        obtain rfl : r_6 = 0 := hw
        refine lv_if_eq (tgt := 34) hx hb dX11_luck_23 (by decide) (fun _ => ?_) (fun c9 => absurd c9 (by decide))
        refine lv_bipush (v := (-2)) hx hb dX11_luck_34 (by decide) ?_
        have hP9 := hP.sub (ws' := [(g, .inr (11, [.ref g0, .ref g1, .ref g2, .int 0, .ref g4, .ref g5, .ref g6, .ref g7, .ref g8, .ref g9, .ref g10, .ref g11, .ref g12])), (g1, .inr (10, [.int 0, .int 0, .int 0, .ref t3, .ref t4, .ref t5, .ref t6, .int 0, .int 0, .ref t9, .ref t10, .int 0, .ref t12, .ref t13, .ref t14, .ref t15, .int 0, .ref t17, .ref t18, .ref t19]))]) [0, 1] rfl
        have hD9 := hD.sub (ws' := [(g, .inr (11, [.ref g0, .ref g1, .ref g2, .int 0, .ref g4, .ref g5, .ref g6, .ref g7, .ref g8, .ref g9, .ref g10, .ref g11, .ref g12])), (g1, .inr (10, [.int 0, .int 0, .int 0, .ref t3, .ref t4, .ref t5, .ref t6, .int 0, .int 0, .ref t9, .ref t10, .int 0, .ref t12, .ref t13, .ref t14, .ref t15, .int 0, .ref t17, .ref t18, .ref t19]))]) [0, 1] (by decide) rfl
        exact W.iret (v := (-2)) hx hb hr (fun tZ ht hW => ⟨⟨(-2), (), rfl, rfl, by rw [ht]; exact hP9, va_K.moved hW.alike hK, hD9⟩, hS.F ht⟩) hS.2.2 dX11_luck_36
set_option maxHeartbeats 4000000 in
set_option maxRecDepth 100000 in
theorem c_X11_tell (l : Launch) (D : va_G) (k : Nat → ClassId) (g : Nat) (g0 : Nat) (g1 : Nat) (g2 : Nat) (g4 : Nat) (g5 : Nat) (g6 : Nat) (g7 : Nat) (g8 : Nat) (g9 : Nat) (g10 : Nat) (g11 : Nat) (g12 : Nat) (t3 : Nat) (t4 : Nat) (t5 : Nat) (t6 : Nat) (t9 : Nat) (t10 : Nat) (t12 : Nat) (t13 : Nat) (t14 : Nat) (t15 : Nat) (t17 : Nat) (t18 : Nat) (t19 : Nat) (p0 : Int32) (p1 : Int32) (p2 : Int32) (sz : Nat) : Met l yX11_tell (ww yX11_tell cX11_tell 6 (some .int)) ({ frames := 1, cells := 0, slots := 0, locals := 21 }) (Pre0 D k [(g, .inr (11, [.ref g0, .ref g1, .ref g2, .int 0, .ref g4, .ref g5, .ref g6, .ref g7, .ref g8, .ref g9, .ref g10, .ref g11, .ref g12])), (g1, .inr (10, [.int 0, .int 0, .int 0, .ref t3, .ref t4, .ref t5, .ref t6, .int 0, .int 0, .ref t9, .ref t10, .int 0, .ref t12, .ref t13, .ref t14, .ref t15, .int 0, .ref t17, .ref t18, .ref t19]))] sz [.ref g, .int p0, .int p1, .int p2]) (va_Qi (fun (r : Int32) (_ : Unit) => r = (-2)) (fun (_ : Unit) tZ => Bw D k (va_A [(g, .inr (11, [.ref g0, .ref g1, .ref g2, .int 0, .ref g4, .ref g5, .ref g6, .ref g7, .ref g8, .ref g9, .ref g10, .ref g11, .ref g12])), (g1, .inr (10, [.int 0, .int 0, .int 0, .ref t3, .ref t4, .ref t5, .ref t6, .int 0, .int 0, .ref t9, .ref t10, .int 0, .ref t12, .ref t13, .ref t14, .ref t15, .int 0, .ref t17, .ref t18, .ref t19]))] sz) [(g, .inr (11, [.ref g0, .ref g1, .ref g2, .int 0, .ref g4, .ref g5, .ref g6, .ref g7, .ref g8, .ref g9, .ref g10, .ref g11, .ref g12])), (g1, .inr (10, [.int 0, .int 0, .int 0, .ref t3, .ref t4, .ref t5, .ref t6, .int 0, .int 0, .ref t9, .ref t10, .int 0, .ref t12, .ref t13, .ref t14, .ref t15, .int 0, .ref t17, .ref t18, .ref t19]))] tZ) (va_A [(g, .inr (11, [.ref g0, .ref g1, .ref g2, .int 0, .ref g4, .ref g5, .ref g6, .ref g7, .ref g8, .ref g9, .ref g10, .ref g11, .ref g12])), (g1, .inr (10, [.int 0, .int 0, .int 0, .ref t3, .ref t4, .ref t5, .ref t6, .int 0, .int 0, .ref t9, .ref t10, .int 0, .ref t12, .ref t13, .ref t14, .ref t15, .int 0, .ref t17, .ref t18, .ref t19]))] sz)) 0 0 (va_A [(g, .inr (11, [.ref g0, .ref g1, .ref g2, .int 0, .ref g4, .ref g5, .ref g6, .ref g7, .ref g8, .ref g9, .ref g10, .ref g11, .ref g12])), (g1, .inr (10, [.int 0, .int 0, .int 0, .ref t3, .ref t4, .ref t5, .ref t6, .int 0, .int 0, .ref t9, .ref t10, .int 0, .ref t12, .ref t13, .ref t14, .ref t15, .int 0, .ref t17, .ref t18, .ref t19]))] sz) := by
  refine Met.ofW (cc := cX11_tell) (maxL := 6) (ret := (some .int)) (by decide +kernel) rfl ?_
  intro p e s m args below meth c s₁ B hml hv
  obtain ⟨rfl, hsz, hP, hK, hD0, hN⟩ := hv
  have hx := B.exec
  have hb := B.bytes
  have hr := B.returns
  have hts : ∀ w ∈ TT, w.before _ s = true := fun w h => atoms_spec (ws := ww yX11_tell cX11_tell 6 (some .int)) B.pre w (List.mem_cons_of_mem _ h)
  have hown : s.vm.findClass RX11 = some m.cls := findClass_of_methodNamed B.named
  have hlocks := B.notSynchronized
  subst hsz
  have hD := hD0.self (sz := s.heap.size)
  generalize hAe : va_A [(g, .inr (11, [.ref g0, .ref g1, .ref g2, .int 0, .ref g4, .ref g5, .ref g6, .ref g7, .ref g8, .ref g9, .ref g10, .ref g11, .ref g12])), (g1, .inr (10, [.int 0, .int 0, .int 0, .ref t3, .ref t4, .ref t5, .ref t6, .int 0, .int 0, .ref t9, .ref t10, .int 0, .ref t12, .ref t13, .ref t14, .ref t15, .int 0, .ref t17, .ref t18, .ref t19]))] s.heap.size = A at hD ⊢
  have hA : ∀ q : Nat, s.heap.size ≤ q → A q := fun q h => by rw [← hAe]; exact Or.inr h
  have hS : va_S A s.heap s.heap [] := va_S.rf
  have hl := lv_entry ([.ref g, .int p0, .int p1, .int p2]) (n := 6) (Nat.le_of_ble_eq_true rfl)
  rw [lg_entry_eq]
  generalize (lg_sl ([.ref g, .int p0, .int p1, .int p2]) ++ List.replicate (6 - (lg_sl ([.ref g, .int p0, .int p1, .int p2])).length) Slot.unset).toArray = ls at hl ⊢
  have hl : lv_has ls 6 [(0, .ref g), (1, .int p0), (2, .int p1), (3, .int p2)] := hl
  refine lv_aload_n hx hb dX11_tell_0 rfl (lv_at hl 0 rfl) ?_
  refine lv_iload_n hx hb dX11_tell_1 rfl (lv_at hl 1 rfl) ?_
  have hPc := hP.sub (ws' := [(g, .inr (11, [.ref g0, .ref g1, .ref g2, .int 0, .ref g4, .ref g5, .ref g6, .ref g7, .ref g8, .ref g9, .ref g10, .ref g11, .ref g12])), (g1, .inr (10, [.int 0, .int 0, .int 0, .ref t3, .ref t4, .ref t5, .ref t6, .int 0, .int 0, .ref t9, .ref t10, .int 0, .ref t12, .ref t13, .ref t14, .ref t15, .int 0, .ref t17, .ref t18, .ref t19]))]) [0, 1] rfl
  have hDc := hD.sub (ws' := [(g, .inr (11, [.ref g0, .ref g1, .ref g2, .int 0, .ref g4, .ref g5, .ref g6, .ref g7, .ref g8, .ref g9, .ref g10, .ref g11, .ref g12])), (g1, .inr (10, [.int 0, .int 0, .int 0, .ref t3, .ref t4, .ref t5, .ref t6, .int 0, .int 0, .ref t9, .ref t10, .int 0, .ref t12, .ref t13, .ref t14, .ref t15, .int 0, .ref t17, .ref t18, .ref t19]))]) [0, 1] (by decide) rfl
  have hFc := va_free (wc := [(g, .inr (11, [.ref g0, .ref g1, .ref g2, .int 0, .ref g4, .ref g5, .ref g6, .ref g7, .ref g8, .ref g9, .ref g10, .ref g11, .ref g12])), (g1, .inr (10, [.int 0, .int 0, .int 0, .ref t3, .ref t4, .ref t5, .ref t6, .int 0, .int 0, .ref t9, .ref t10, .int 0, .ref t12, .ref t13, .ref t14, .ref t15, .int 0, .ref t17, .ref t18, .ref t19]))]) hD hS hA [0, 1] rfl
  refine va_calli (va_runV (C := RX11) (As := [.int p0]) (rest := []) ⟨hx, hb, hml, hown, hts⟩ (c_X11_isHouse l D k g g0 g1 g2 g4 g5 g6 g7 g8 g9 g10 g11 g12 t3 t4 t5 t6 t9 t10 t12 t13 t14 t15 t17 t18 t19 p0 s.heap.size) (cwV 1 hts (gV tw_3_163 tw_3_165 tw_p_17 tw_1_1 tw_3_166) rfl rfl rfl hdV_X11_isHouse ⟨Nat.le_of_ble_eq_true rfl, Nat.le_of_ble_eq_true rfl⟩) (cz_V hK hPc hDc hN (ci := 11) (q0 := 0) rfl rfl [.int p0]) rfl rfl hl.1 rfl (lv_room (Nat.le_of_ble_eq_true rfl)) dX11_tell_2 ⟨Nat.le_of_ble_eq_true rfl, Nat.le_of_ble_eq_true rfl⟩) hS (fun q _ h => hFc q h) hFc (fun r_1 uZ tZ H1 locs ht hvm hw hB hz1 hk1 hS => ?_)
  obtain ⟨hP1, hK1, hD1⟩ := hB
  rw [ht] at hP1
  obtain ⟨hP, hD⟩ := va_join (wr := []) (w1 := [(g, .inr (11, [.ref g0, .ref g1, .ref g2, .int 0, .ref g4, .ref g5, .ref g6, .ref g7, .ref g8, .ref g9, .ref g10, .ref g11, .ref g12])), (g1, .inr (10, [.int 0, .int 0, .int 0, .ref t3, .ref t4, .ref t5, .ref t6, .int 0, .int 0, .ref t9, .ref t10, .int 0, .ref t12, .ref t13, .ref t14, .ref t15, .int 0, .ref t17, .ref t18, .ref t19]))]) hP hD [0, 1] [] rfl rfl (by decide) (by decide) hk1 hFc hP1 hD1
  clear hK1 hP1 hD1 hPc hDc hFc
  clear hk1 hz1 ht hvm
  have hP : va_P D vwCl [(g, .inr (11, [.ref g0, .ref g1, .ref g2, .int 0, .ref g4, .ref g5, .ref g6, .ref g7, .ref g8, .ref g9, .ref g10, .ref g11, .ref g12])), (g1, .inr (10, [.int 0, .int 0, .int 0, .ref t3, .ref t4, .ref t5, .ref t6, .int 0, .int 0, .ref t9, .ref t10, .int 0, .ref t12, .ref t13, .ref t14, .ref t15, .int 0, .ref t17, .ref t18, .ref t19]))] H1 := hP
  have hD : va_D A [(g, .inr (11, [.ref g0, .ref g1, .ref g2, .int 0, .ref g4, .ref g5, .ref g6, .ref g7, .ref g8, .ref g9, .ref g10, .ref g11, .ref g12])), (g1, .inr (10, [.int 0, .int 0, .int 0, .ref t3, .ref t4, .ref t5, .ref t6, .int 0, .int 0, .ref t9, .ref t10, .int 0, .ref t12, .ref t13, .ref t14, .ref t15, .int 0, .ref t17, .ref t18, .ref t19]))] := hD
  generalize H1 = H at hP hS ⊢
  obtain rfl : r_1 = 0 := hw
  refine lv_if_eq (tgt := 25) hx hb dX11_tell_5 (by decide) (fun _ => ?_) (fun c9 => absurd c9 (by decide))
  refine lv_bipush (v := (-2)) hx hb dX11_tell_25 (by decide) ?_
  have hP9 := hP.sub (ws' := [(g, .inr (11, [.ref g0, .ref g1, .ref g2, .int 0, .ref g4, .ref g5, .ref g6, .ref g7, .ref g8, .ref g9, .ref g10, .ref g11, .ref g12])), (g1, .inr (10, [.int 0, .int 0, .int 0, .ref t3, .ref t4, .ref t5, .ref t6, .int 0, .int 0, .ref t9, .ref t10, .int 0, .ref t12, .ref t13, .ref t14, .ref t15, .int 0, .ref t17, .ref t18, .ref t19]))]) [0, 1] rfl
  have hD9 := hD.sub (ws' := [(g, .inr (11, [.ref g0, .ref g1, .ref g2, .int 0, .ref g4, .ref g5, .ref g6, .ref g7, .ref g8, .ref g9, .ref g10, .ref g11, .ref g12])), (g1, .inr (10, [.int 0, .int 0, .int 0, .ref t3, .ref t4, .ref t5, .ref t6, .int 0, .int 0, .ref t9, .ref t10, .int 0, .ref t12, .ref t13, .ref t14, .ref t15, .int 0, .ref t17, .ref t18, .ref t19]))]) [0, 1] (by decide) rfl
  exact W.iret (v := (-2)) hx hb hr (fun tZ ht hW => ⟨⟨(-2), (), rfl, rfl, by rw [ht]; exact hP9, va_K.moved hW.alike hK, hD9⟩, hS.F ht⟩) hS.2.2 dX11_tell_27
