set_option maxHeartbeats 4000000 in
set_option maxRecDepth 100000 in
theorem c_M_turn (l : Launch) (dC : Nat → ClassId) (dI : Nat → Nat → Nat) (h0 q1 q2 q3 q4 : Nat) (k1 k2 k3 k4 : ClassId) (sz : Nat) (g b t w : Nat → Int32) (a1 : Int32) : Met l yM_turn wsM_turn ({ frames := 1, cells := 0, slots := 0, locals := 20 }) (va_Pc [.ref h0, .int a1] (fun U => U.heap.size = sz ∧ va_P (dC, dI) vwCl (wsM h0 q1 q2 q3 q4 k1 k2 k3 k4 g b t w) U.heap ∧ va_K (dC, dI) vwCl [(k1, .boolean), (k2, .int), (k3, .int), (k4, .int)] U ∧ va_D (fun _ => True) (wsM h0 q1 q2 q3 q4 k1 k2 k3 k4 g b t w))) (va_Qi (fun (r : Int32) (_ : Unit) => r = f_M_turn g b t w a1) (fun _ tt => va_P (dC, dI) vwCl (wsM h0 q1 q2 q3 q4 k1 k2 k3 k4 ((u_M_turn_g g b t w a1)) b t w) tt.heap ∧ va_D (va_A (wsM h0 q1 q2 q3 q4 k1 k2 k3 k4 g b t w) sz) (wsM h0 q1 q2 q3 q4 k1 k2 k3 k4 ((u_M_turn_g g b t w a1)) b t w)) (va_A (wsM h0 q1 q2 q3 q4 k1 k2 k3 k4 g b t w) sz)) 0 0 (va_A (wsM h0 q1 q2 q3 q4 k1 k2 k3 k4 g b t w) sz) := by
  refine Met.ofW (cc := prog_3_method_13_code) (maxL := 2) (ret := (some .boolean)) (by decide) rfl ?_
  intro p e s m args below meth c s₁ B hml hv
  obtain ⟨rfl, hsz, hP, hK, hD0⟩ := hv
  have hx := B.exec
  have hb := B.bytes
  have hr := B.returns
  have hts := fun (w : Cond) (h : w ∈ gw) => atoms_spec (ws := wsM_turn) B.pre w (List.mem_cons_of_mem _ h)
  have hown : s.vm.findClass RM = some m.cls := findClass_of_methodNamed B.named
  have hlocks := B.notSynchronized
  subst hsz
  have hD := hD0.self (sz := s.heap.size)
  generalize hAe : va_A (wsM h0 q1 q2 q3 q4 k1 k2 k3 k4 g b t w) s.heap.size = A at hD ⊢
  have hS : va_S A s.heap s.heap [] := va_S.rf
  have hl := lv_entry ([.ref h0, .int a1]) (n := 2) (Nat.le_of_ble_eq_true rfl)
  rw [lg_entry_eq]
  generalize (lg_sl ([.ref h0, .int a1]) ++ List.replicate (2 - (lg_sl ([.ref h0, .int a1])).length) Slot.unset).toArray = ls at hl ⊢
  have hl : lv_has ls 2 [(0, .ref h0), (1, .int a1)] := hl
  refine lv_iload_n hx hb dM_turn_0 rfl (lv_at hl 1 rfl) ?_
  refine kk_callP (va_runS (As := [.int a1]) (rest := []) ⟨hx, hb, hml, hown, hts⟩ (c_M_isRegister l a1) (va_cwS 1 hts (gS tw_233 tw_234 tw_2 tw_235) rfl rfl rfl (by decide +kernel) ⟨Nat.le_of_ble_eq_true rfl, Nat.le_of_ble_eq_true rfl⟩) ⟨fun _ _ _ _ q => q, fun _ _ _ => ⟨rfl, trivial⟩⟩ rfl rfl hl.1 rfl (lv_room (Nat.le_of_ble_eq_true rfl)) dM_turn_1 ⟨Nat.le_of_ble_eq_true rfl, Nat.le_of_ble_eq_true rfl⟩) hS hP (fun H locs hS hP => ?_)
  refine lv_if_ne (tgt := 9) hx hb dM_turn_4 (by decide) (fun c_1 => ?_) (fun c_1 => ?_)
  · refine lv_aload_n hx hb dM_turn_9 rfl (lv_at hl 0 rfl) ?_
    refine va_get (D := (dC, dI)) (ci := 1) (v := .ref q1) (C := RM) (T := TM) (N := 4) hx hb hts iM hown hK hP 0 rfl rfl 0 (by decide) (hts _ tw_214) (fun _ h9 => h9) rfl dM_turn_10 ?_
    refine lv_iload_n hx hb dM_turn_13 rfl (lv_at hl 1 rfl) ?_
    refine kk_mrg (pc' := 28) (ls' := ls) (rest' := [.int a1, .ref q1]) (x := (if (g a1.toNatClampNeg) = 0 then (1 : Int32) else (0 : Int32))) (fun hk_2 => ?_) (fun v_4 ev_4 => ?_)
    · refine lv_aload_n hx hb dM_turn_14 rfl (lv_at hl 0 rfl) ?_
      refine va_get (D := (dC, dI)) (ci := 1) (v := .ref q1) (C := RM) (T := TM) (N := 4) hx hb hts iM hown hK hP 0 rfl rfl 0 (by decide) (hts _ tw_214) (fun _ h9 => h9) rfl dM_turn_15 ?_
      refine lv_iload_n hx hb dM_turn_18 rfl (lv_at hl 1 rfl) ?_
      refine va_zald hx hb hK hP 1 0 rfl rfl (in_M c_1) dM_turn_19 ?_
      refine lv_if_ne (tgt := 27) hx hb dM_turn_20 (by decide) (fun c_3 => ?_) (fun c_3 => ?_)
      · refine lv_iconst (v := (0 : Int32)) hx hb dM_turn_27 (by decide) ?_
        exact hk_2 _ (by rw [if_neg c_3])
      · refine lv_iconst (v := (1 : Int32)) hx hb dM_turn_23 (by decide) ?_
        refine lv_goto (tgt := 28) hx hb dM_turn_24 (by decide) ?_
        exact hk_2 _ (by rw [if_pos c_3])
    refine va_zast hx hb hK hP hD hS 1 0 rfl rfl (in_M c_1) dM_turn_28 (fun H locs hP hD hS => ?_)
    have hP : va_P (dC, dI) vwCl (wsM h0 q1 q2 q3 q4 k1 k2 k3 k4 (upd g a1.toNatClampNeg (vp_nar .boolean v_4)) b t w) H := hP
    have hD : va_D A (wsM h0 q1 q2 q3 q4 k1 k2 k3 k4 (upd g a1.toNatClampNeg (vp_nar .boolean v_4)) b t w) := hD
    refine lv_iconst (v := (1 : Int32)) hx hb dM_turn_29 (by decide) ?_
    have eu_g : upd g a1.toNatClampNeg (vp_nar .boolean v_4) = (u_M_turn_g g b t w a1) := (by subst ev_4; unfold u_M_turn_g; rw [if_neg c_1])
    have hP9 : va_P (dC, dI) vwCl (wsM h0 q1 q2 q3 q4 k1 k2 k3 k4 ((u_M_turn_g g b t w a1)) b t w) H := by rw [← eu_g]; exact hP
    have hD9 : va_D A (wsM h0 q1 q2 q3 q4 k1 k2 k3 k4 ((u_M_turn_g g b t w a1)) b t w) := by rw [← eu_g]; exact hD
    exact W.zret (v := (1 : Int32)) hx hb hr (by decide) (fun tt ht hW => ⟨⟨(1 : Int32), (), rfl, (by subst ev_4; unfold f_M_turn; rw [if_neg c_1]), by rw [ht]; exact hP9, hD9⟩, hS.F ht⟩) hS.2.2 dM_turn_30
  · refine lv_iconst (v := (0 : Int32)) hx hb dM_turn_7 (by decide) ?_
    have eu_g : g = (u_M_turn_g g b t w a1) := (by unfold u_M_turn_g; rw [if_pos c_1])
    have hP9 : va_P (dC, dI) vwCl (wsM h0 q1 q2 q3 q4 k1 k2 k3 k4 ((u_M_turn_g g b t w a1)) b t w) H := by rw [← eu_g]; exact hP
    have hD9 : va_D A (wsM h0 q1 q2 q3 q4 k1 k2 k3 k4 ((u_M_turn_g g b t w a1)) b t w) := by rw [← eu_g]; exact hD
    exact W.zret (v := (0 : Int32)) hx hb hr (by decide) (fun tt ht hW => ⟨⟨(0 : Int32), (), rfl, (by unfold f_M_turn; rw [if_pos c_1]), by rw [ht]; exact hP9, hD9⟩, hS.F ht⟩) hS.2.2 dM_turn_8

set_option maxHeartbeats 4000000 in
set_option maxRecDepth 100000 in
theorem c_M_set (l : Launch) (dC : Nat → ClassId) (dI : Nat → Nat → Nat) (h0 q1 q2 q3 q4 : Nat) (k1 k2 k3 k4 : ClassId) (sz : Nat) (g b t w : Nat → Int32) (a1 a2 a3 : Int32) : Met l yM_set wsM_set ({ frames := 1, cells := 0, slots := 0, locals := 20 }) (va_Pc [.ref h0, .int a1, .int a2, .int a3] (fun U => U.heap.size = sz ∧ va_P (dC, dI) vwCl (wsM h0 q1 q2 q3 q4 k1 k2 k3 k4 g b t w) U.heap ∧ va_K (dC, dI) vwCl [(k1, .boolean), (k2, .int), (k3, .int), (k4, .int)] U ∧ va_D (fun _ => True) (wsM h0 q1 q2 q3 q4 k1 k2 k3 k4 g b t w))) (va_Qi (fun (r : Int32) (_ : Unit) => r = f_M_set g b t w a1 a2 a3) (fun _ tt => va_P (dC, dI) vwCl (wsM h0 q1 q2 q3 q4 k1 k2 k3 k4 ((u_M_set_g g b t w a1 a2 a3)) ((u_M_set_b g b t w a1 a2 a3)) t w) tt.heap ∧ va_D (va_A (wsM h0 q1 q2 q3 q4 k1 k2 k3 k4 g b t w) sz) (wsM h0 q1 q2 q3 q4 k1 k2 k3 k4 ((u_M_set_g g b t w a1 a2 a3)) ((u_M_set_b g b t w a1 a2 a3)) t w)) (va_A (wsM h0 q1 q2 q3 q4 k1 k2 k3 k4 g b t w) sz)) 0 0 (va_A (wsM h0 q1 q2 q3 q4 k1 k2 k3 k4 g b t w) sz) := by
  refine Met.ofW (cc := prog_3_method_6_code) (maxL := 7) (ret := (some .boolean)) (by decide) rfl ?_
  intro p e s m args below meth c s₁ B hml hv
  obtain ⟨rfl, hsz, hP, hK, hD0⟩ := hv
  have hx := B.exec
  have hb := B.bytes
  have hr := B.returns
  have hts := fun (w : Cond) (h : w ∈ gw) => atoms_spec (ws := wsM_set) B.pre w (List.mem_cons_of_mem _ h)
  have hown : s.vm.findClass RM = some m.cls := findClass_of_methodNamed B.named
  have hlocks := B.notSynchronized
  subst hsz
  have hD := hD0.self (sz := s.heap.size)
  generalize hAe : va_A (wsM h0 q1 q2 q3 q4 k1 k2 k3 k4 g b t w) s.heap.size = A at hD ⊢
  have hS : va_S A s.heap s.heap [] := va_S.rf
  have hl := lv_entry ([.ref h0, .int a1, .int a2, .int a3]) (n := 7) (Nat.le_of_ble_eq_true rfl)
  rw [lg_entry_eq]
  generalize (lg_sl ([.ref h0, .int a1, .int a2, .int a3]) ++ List.replicate (7 - (lg_sl ([.ref h0, .int a1, .int a2, .int a3])).length) Slot.unset).toArray = ls at hl ⊢
  have hl : lv_has ls 7 [(0, .ref h0), (1, .int a1), (2, .int a2), (3, .int a3)] := hl
  refine lv_ldc (v := (-1073741824 : Int32)) hx hb hown (hts _ tw_232) dM_set_0 ?_
  refine lv_istore (lv' := [(4, .int (-1073741824 : Int32)), (0, .ref h0), (1, .int a1), (2, .int a2), (3, .int a3)]) hx hb dM_set_2 hl (by decide) rfl (fun ls hl => ?_)
  refine lv_iload_n hx hb dM_set_4 rfl (lv_at hl 2 rfl) ?_
  refine kk_callP (va_runS (As := [.int a1]) (rest := []) ⟨hx, hb, hml, hown, hts⟩ (c_M_isRegister l a1) (va_cwS 1 hts (gS tw_233 tw_234 tw_2 tw_235) rfl rfl rfl (by decide +kernel) ⟨Nat.le_of_ble_eq_true rfl, Nat.le_of_ble_eq_true rfl⟩) ⟨fun _ _ _ _ q => q, fun _ _ _ => ⟨rfl, trivial⟩⟩ rfl rfl hl.1 rfl (lv_room (Nat.le_of_ble_eq_true rfl)) dM_set_5 ⟨Nat.le_of_ble_eq_true rfl, Nat.le_of_ble_eq_true rfl⟩) hS hP (fun H locs hS hP => ?_)
  refine lv_if_eq (tgt := 23) hx hb dM_set_8 (by decide) (fun c_1 => ?_) (fun c_1 => ?_)
  · refine lv_iconst (v := (0 : Int32)) hx hb dM_set_23 (by decide) ?_
    have eu_g : g = (u_M_set_g g b t w a1 a2 a3) := (by unfold u_M_set_g; rw [if_pos c_1])
    have eu_b : b = (u_M_set_b g b t w a1 a2 a3) := (by unfold u_M_set_b; rw [if_pos c_1])
    have hP9 : va_P (dC, dI) vwCl (wsM h0 q1 q2 q3 q4 k1 k2 k3 k4 ((u_M_set_g g b t w a1 a2 a3)) ((u_M_set_b g b t w a1 a2 a3)) t w) H := by rw [← eu_g, ← eu_b]; exact hP
    have hD9 : va_D A (wsM h0 q1 q2 q3 q4 k1 k2 k3 k4 ((u_M_set_g g b t w a1 a2 a3)) ((u_M_set_b g b t w a1 a2 a3)) t w) := by rw [← eu_g, ← eu_b]; exact hD
    exact W.zret (v := (0 : Int32)) hx hb hr (by decide) (fun tt ht hW => ⟨⟨(0 : Int32), (), rfl, (by unfold f_M_set; rw [if_pos c_1]), by rw [ht]; exact hP9, hD9⟩, hS.F ht⟩) hS.2.2 dM_set_24
  · refine lv_iload_n hx hb dM_set_11 rfl (lv_at hl 3 rfl) ?_
    refine lv_iload hx hb dM_set_12 (lv_at hl 0 rfl) ?_
    refine lv_icmp_le (tgt := 23) hx hb dM_set_14 (by decide) (fun c_2 => ?_) (fun c_2 => ?_)
    · refine lv_iconst (v := (0 : Int32)) hx hb dM_set_23 (by decide) ?_
      have eu_g : g = (u_M_set_g g b t w a1 a2 a3) := (by unfold u_M_set_g; rw [if_neg c_1, if_pos c_2])
      have eu_b : b = (u_M_set_b g b t w a1 a2 a3) := (by unfold u_M_set_b; rw [if_neg c_1, if_pos c_2])
      have hP9 : va_P (dC, dI) vwCl (wsM h0 q1 q2 q3 q4 k1 k2 k3 k4 ((u_M_set_g g b t w a1 a2 a3)) ((u_M_set_b g b t w a1 a2 a3)) t w) H := by rw [← eu_g, ← eu_b]; exact hP
      have hD9 : va_D A (wsM h0 q1 q2 q3 q4 k1 k2 k3 k4 ((u_M_set_g g b t w a1 a2 a3)) ((u_M_set_b g b t w a1 a2 a3)) t w) := by rw [← eu_g, ← eu_b]; exact hD
      exact W.zret (v := (0 : Int32)) hx hb hr (by decide) (fun tt ht hW => ⟨⟨(0 : Int32), (), rfl, (by unfold f_M_set; rw [if_neg c_1, if_pos c_2]), by rw [ht]; exact hP9, hD9⟩, hS.F ht⟩) hS.2.2 dM_set_24
    · refine lv_iload_n hx hb dM_set_17 rfl (lv_at hl 3 rfl) ?_
      refine lv_ldc (v := (1073741824 : Int32)) hx hb hown (hts _ tw_236) dM_set_18 ?_
      refine lv_icmp_lt (tgt := 25) hx hb dM_set_20 (by decide) (fun c_3 => ?_) (fun c_3 => ?_)
      · refine lv_aload_n hx hb dM_set_25 rfl (lv_at hl 1 rfl) ?_
        refine va_get (D := (dC, dI)) (ci := 1) (v := .ref q1) (C := RM) (T := TM) (N := 4) hx hb hts iM hown hK hP 0 rfl rfl 0 (by decide) (hts _ tw_214) (fun _ h9 => h9) rfl dM_set_26 ?_
        refine lv_iload_n hx hb dM_set_29 rfl (lv_at hl 2 rfl) ?_
        refine kk_mrg (pc' := 47) (ls' := ls) (rest' := [.int a1, .ref q1]) (x := (if a2 < 0 then (1 : Int32) else (if a2 = 0 then (if a3 = 0 then (0 : Int32) else (1 : Int32)) else (0 : Int32)))) (fun hk_4 => ?_) (fun v_8 ev_8 => ?_)
        · refine lv_iload_n hx hb dM_set_30 rfl (lv_at hl 3 rfl) ?_
          refine lv_if_lt (tgt := 42) hx hb dM_set_31 (by decide) (fun c_5 => ?_) (fun c_5 => ?_)
          · refine lv_iconst (v := (1 : Int32)) hx hb dM_set_42 (by decide) ?_
            refine lv_goto (tgt := 47) hx hb dM_set_43 (by decide) ?_
            exact hk_4 _ (by rw [if_pos c_5])
          · refine lv_iload_n hx hb dM_set_34 rfl (lv_at hl 3 rfl) ?_
            refine lv_if_ne (tgt := 46) hx hb dM_set_35 (by decide) (fun c_6 => ?_) (fun c_6 => ?_)
            · refine lv_iconst (v := (0 : Int32)) hx hb dM_set_46 (by decide) ?_
              exact hk_4 _ (by rw [if_neg c_5, if_neg c_6])
            · refine lv_iload_n hx hb dM_set_38 rfl (lv_at hl 4 rfl) ?_
              refine lv_if_eq (tgt := 46) hx hb dM_set_39 (by decide) (fun c_7 => ?_) (fun c_7 => ?_)
              · refine lv_iconst (v := (0 : Int32)) hx hb dM_set_46 (by decide) ?_
                exact hk_4 _ (by rw [if_neg c_5, if_pos c_6, if_pos c_7])
              · refine lv_iconst (v := (1 : Int32)) hx hb dM_set_42 (by decide) ?_
                refine lv_goto (tgt := 47) hx hb dM_set_43 (by decide) ?_
                exact hk_4 _ (by rw [if_neg c_5, if_pos c_6, if_neg c_7])
        refine va_zast hx hb hK hP hD hS 1 0 rfl rfl (in_M c_1) dM_set_47 (fun H locs hP hD hS => ?_)
        have hP : va_P (dC, dI) vwCl (wsM h0 q1 q2 q3 q4 k1 k2 k3 k4 (upd g a1.toNatClampNeg (vp_nar .boolean v_8)) b t w) H := hP
        have hD : va_D A (wsM h0 q1 q2 q3 q4 k1 k2 k3 k4 (upd g a1.toNatClampNeg (vp_nar .boolean v_8)) b t w) := hD
        refine kk_mrg (pc' := 58) (ls' := ls) (rest' := []) (x := (if 0 ≤ a2 then a2 else (-a2))) (fun hk_9 => ?_) (fun v_11 ev_11 => ?_)
        · refine lv_iload_n hx hb dM_set_48 rfl (lv_at hl 3 rfl) ?_
          refine lv_if_ge (tgt := 57) hx hb dM_set_49 (by decide) (fun c_10 => ?_) (fun c_10 => ?_)
          · refine lv_iload_n hx hb dM_set_57 rfl (lv_at hl 3 rfl) ?_
            exact hk_9 _ (by rw [if_pos c_10])
          · refine lv_iload_n hx hb dM_set_52 rfl (lv_at hl 3 rfl) ?_
            refine lv_ineg hx hb dM_set_53 ?_
            refine lv_goto (tgt := 58) hx hb dM_set_54 (by decide) ?_
            exact hk_9 _ (by rw [if_neg c_10])
        refine lv_istore (lv' := [(5, .int v_11), (4, .int (-1073741824 : Int32)), (0, .ref h0), (1, .int a1), (2, .int a2), (3, .int a3)]) hx hb dM_set_58 hl (by decide) rfl (fun ls hl => ?_)
        refine lv_iconst (v := (5 : Int32)) hx hb dM_set_60 (by decide) ?_
        refine lv_istore (lv' := [(6, .int (5 : Int32)), (5, .int v_11), (4, .int (-1073741824 : Int32)), (0, .ref h0), (1, .int a1), (2, .int a2), (3, .int a3)]) hx hb dM_set_61 hl (by decide) rfl (fun ls hl => ?_)
        refine lv_iload hx hb dM_set_63 (lv_at hl 0 rfl) ?_
        refine lv_if_le (tgt := 98) hx hb dM_set_65 (by decide) (fun c0 => absurd c0 (by decide)) (fun _ => ?_)
        refine lv_aload_n hx hb dM_set_68 rfl (lv_at hl 3 rfl) ?_
        refine va_get (D := (dC, dI)) (ci := 1) (v := .ref q2) (C := RM) (T := TM) (N := 4) hx hb hts iM hown hK hP 0 rfl rfl 1 (by decide) (hts _ tw_215) (fun _ h9 => h9) rfl dM_set_69 ?_
        refine lv_bipush (v := (6 : Int32)) hx hb dM_set_72 (by decide) ?_
        refine lv_iload_n hx hb dM_set_74 rfl (lv_at hl 4 rfl) ?_
        refine lv_imul hx hb dM_set_75 ?_
        refine lv_iload hx hb dM_set_76 (lv_at hl 0 rfl) ?_
        refine lv_iadd hx hb dM_set_78 ?_
        refine lv_iload hx hb dM_set_79 (lv_at hl 1 rfl) ?_
        refine lv_bipush (v := (64 : Int32)) hx hb dM_set_81 (by decide) ?_
        refine lv_irem hx hb dM_set_83 (by decide) ?_
        refine va_iast hx hb hK hP hD hS 2 1 rfl rfl (in_96 c_1 (by unfold vp_in; decide)) dM_set_84 (fun H locs hP hD hS => ?_)
        have hP : va_P (dC, dI) vwCl (wsM h0 q1 q2 q3 q4 k1 k2 k3 k4 (upd g a1.toNatClampNeg (vp_nar .boolean v_8)) (upd b (((6 : Int32) * a1) + (5 : Int32)).toNatClampNeg (v_11 - v_11 / (64 : Int32) * (64 : Int32))) t w) H := hP
        have hD : va_D A (wsM h0 q1 q2 q3 q4 k1 k2 k3 k4 (upd g a1.toNatClampNeg (vp_nar .boolean v_8)) (upd b (((6 : Int32) * a1) + (5 : Int32)).toNatClampNeg (v_11 - v_11 / (64 : Int32) * (64 : Int32))) t w) := hD
        refine lv_iload hx hb dM_set_85 (lv_at hl 1 rfl) ?_
        refine lv_bipush (v := (64 : Int32)) hx hb dM_set_87 (by decide) ?_
        refine lv_idiv hx hb dM_set_89 (by decide) ?_
        refine lv_istore (lv' := [(5, .int (v_11 / (64 : Int32))), (6, .int (5 : Int32)), (4, .int (-1073741824 : Int32)), (0, .ref h0), (1, .int a1), (2, .int a2), (3, .int a3)]) hx hb dM_set_90 hl (by decide) rfl (fun ls hl => ?_)
        refine lv_iinc (v := (4 : Int32)) (lv' := [(6, .int (4 : Int32)), (5, .int (v_11 / (64 : Int32))), (4, .int (-1073741824 : Int32)), (0, .ref h0), (1, .int a1), (2, .int a2), (3, .int a3)]) hx hb dM_set_92 hl (k := 1) rfl (by decide) (by decide) rfl (fun ls hl => ?_)
        refine lv_goto (tgt := 63) hx hb dM_set_95 (by decide) ?_
        refine lv_iload hx hb dM_set_63 (lv_at hl 0 rfl) ?_
        refine lv_if_le (tgt := 98) hx hb dM_set_65 (by decide) (fun c0 => absurd c0 (by decide)) (fun _ => ?_)
        refine lv_aload_n hx hb dM_set_68 rfl (lv_at hl 3 rfl) ?_
        refine va_get (D := (dC, dI)) (ci := 1) (v := .ref q2) (C := RM) (T := TM) (N := 4) hx hb hts iM hown hK hP 0 rfl rfl 1 (by decide) (hts _ tw_215) (fun _ h9 => h9) rfl dM_set_69 ?_
        refine lv_bipush (v := (6 : Int32)) hx hb dM_set_72 (by decide) ?_
        refine lv_iload_n hx hb dM_set_74 rfl (lv_at hl 4 rfl) ?_
        refine lv_imul hx hb dM_set_75 ?_
        refine lv_iload hx hb dM_set_76 (lv_at hl 0 rfl) ?_
        refine lv_iadd hx hb dM_set_78 ?_
        refine lv_iload hx hb dM_set_79 (lv_at hl 1 rfl) ?_
        refine lv_bipush (v := (64 : Int32)) hx hb dM_set_81 (by decide) ?_
        refine lv_irem hx hb dM_set_83 (by decide) ?_
        refine va_iast hx hb hK hP hD hS 2 1 rfl rfl (in_96 c_1 (by unfold vp_in; decide)) dM_set_84 (fun H locs hP hD hS => ?_)
        have hP : va_P (dC, dI) vwCl (wsM h0 q1 q2 q3 q4 k1 k2 k3 k4 (upd g a1.toNatClampNeg (vp_nar .boolean v_8)) (upd (upd b (((6 : Int32) * a1) + (5 : Int32)).toNatClampNeg (v_11 - v_11 / (64 : Int32) * (64 : Int32))) (((6 : Int32) * a1) + (4 : Int32)).toNatClampNeg ((v_11 / (64 : Int32)) - (v_11 / (64 : Int32)) / (64 : Int32) * (64 : Int32))) t w) H := hP
        have hD : va_D A (wsM h0 q1 q2 q3 q4 k1 k2 k3 k4 (upd g a1.toNatClampNeg (vp_nar .boolean v_8)) (upd (upd b (((6 : Int32) * a1) + (5 : Int32)).toNatClampNeg (v_11 - v_11 / (64 : Int32) * (64 : Int32))) (((6 : Int32) * a1) + (4 : Int32)).toNatClampNeg ((v_11 / (64 : Int32)) - (v_11 / (64 : Int32)) / (64 : Int32) * (64 : Int32))) t w) := hD
        refine lv_iload hx hb dM_set_85 (lv_at hl 1 rfl) ?_
        refine lv_bipush (v := (64 : Int32)) hx hb dM_set_87 (by decide) ?_
        refine lv_idiv hx hb dM_set_89 (by decide) ?_
        refine lv_topi (fun x_12 ex_12 => ?_)
        refine lv_istore (lv' := [(5, .int x_12), (6, .int (4 : Int32)), (4, .int (-1073741824 : Int32)), (0, .ref h0), (1, .int a1), (2, .int a2), (3, .int a3)]) hx hb dM_set_90 hl (by decide) rfl (fun ls hl => ?_)
        refine lv_iinc (v := (3 : Int32)) (lv' := [(6, .int (3 : Int32)), (5, .int x_12), (4, .int (-1073741824 : Int32)), (0, .ref h0), (1, .int a1), (2, .int a2), (3, .int a3)]) hx hb dM_set_92 hl (k := 1) rfl (by decide) (by decide) rfl (fun ls hl => ?_)
        refine lv_goto (tgt := 63) hx hb dM_set_95 (by decide) ?_
        refine lv_iload hx hb dM_set_63 (lv_at hl 0 rfl) ?_
        refine lv_if_le (tgt := 98) hx hb dM_set_65 (by decide) (fun c0 => absurd c0 (by decide)) (fun _ => ?_)
        refine lv_aload_n hx hb dM_set_68 rfl (lv_at hl 3 rfl) ?_
        refine va_get (D := (dC, dI)) (ci := 1) (v := .ref q2) (C := RM) (T := TM) (N := 4) hx hb hts iM hown hK hP 0 rfl rfl 1 (by decide) (hts _ tw_215) (fun _ h9 => h9) rfl dM_set_69 ?_
        refine lv_bipush (v := (6 : Int32)) hx hb dM_set_72 (by decide) ?_
        refine lv_iload_n hx hb dM_set_74 rfl (lv_at hl 4 rfl) ?_
        refine lv_imul hx hb dM_set_75 ?_
        refine lv_iload hx hb dM_set_76 (lv_at hl 0 rfl) ?_
        refine lv_iadd hx hb dM_set_78 ?_
        refine lv_iload hx hb dM_set_79 (lv_at hl 1 rfl) ?_
        refine lv_bipush (v := (64 : Int32)) hx hb dM_set_81 (by decide) ?_
        refine lv_irem hx hb dM_set_83 (by decide) ?_
        refine va_iast hx hb hK hP hD hS 2 1 rfl rfl (in_96 c_1 (by unfold vp_in; decide)) dM_set_84 (fun H locs hP hD hS => ?_)
        have hP : va_P (dC, dI) vwCl (wsM h0 q1 q2 q3 q4 k1 k2 k3 k4 (upd g a1.toNatClampNeg (vp_nar .boolean v_8)) (upd (upd (upd b (((6 : Int32) * a1) + (5 : Int32)).toNatClampNeg (v_11 - v_11 / (64 : Int32) * (64 : Int32))) (((6 : Int32) * a1) + (4 : Int32)).toNatClampNeg ((v_11 / (64 : Int32)) - (v_11 / (64 : Int32)) / (64 : Int32) * (64 : Int32))) (((6 : Int32) * a1) + (3 : Int32)).toNatClampNeg (x_12 - x_12 / (64 : Int32) * (64 : Int32))) t w) H := hP
        have hD : va_D A (wsM h0 q1 q2 q3 q4 k1 k2 k3 k4 (upd g a1.toNatClampNeg (vp_nar .boolean v_8)) (upd (upd (upd b (((6 : Int32) * a1) + (5 : Int32)).toNatClampNeg (v_11 - v_11 / (64 : Int32) * (64 : Int32))) (((6 : Int32) * a1) + (4 : Int32)).toNatClampNeg ((v_11 / (64 : Int32)) - (v_11 / (64 : Int32)) / (64 : Int32) * (64 : Int32))) (((6 : Int32) * a1) + (3 : Int32)).toNatClampNeg (x_12 - x_12 / (64 : Int32) * (64 : Int32))) t w) := hD
        refine lv_iload hx hb dM_set_85 (lv_at hl 1 rfl) ?_
        refine lv_bipush (v := (64 : Int32)) hx hb dM_set_87 (by decide) ?_
        refine lv_idiv hx hb dM_set_89 (by decide) ?_
        refine lv_istore (lv' := [(5, .int (x_12 / (64 : Int32))), (6, .int (3 : Int32)), (4, .int (-1073741824 : Int32)), (0, .ref h0), (1, .int a1), (2, .int a2), (3, .int a3)]) hx hb dM_set_90 hl (by decide) rfl (fun ls hl => ?_)
        refine lv_iinc (v := (2 : Int32)) (lv' := [(6, .int (2 : Int32)), (5, .int (x_12 / (64 : Int32))), (4, .int (-1073741824 : Int32)), (0, .ref h0), (1, .int a1), (2, .int a2), (3, .int a3)]) hx hb dM_set_92 hl (k := 1) rfl (by decide) (by decide) rfl (fun ls hl => ?_)
        refine lv_goto (tgt := 63) hx hb dM_set_95 (by decide) ?_
        refine lv_iload hx hb dM_set_63 (lv_at hl 0 rfl) ?_
        refine lv_if_le (tgt := 98) hx hb dM_set_65 (by decide) (fun c0 => absurd c0 (by decide)) (fun _ => ?_)
        refine lv_aload_n hx hb dM_set_68 rfl (lv_at hl 3 rfl) ?_
        refine va_get (D := (dC, dI)) (ci := 1) (v := .ref q2) (C := RM) (T := TM) (N := 4) hx hb hts iM hown hK hP 0 rfl rfl 1 (by decide) (hts _ tw_215) (fun _ h9 => h9) rfl dM_set_69 ?_
        refine lv_bipush (v := (6 : Int32)) hx hb dM_set_72 (by decide) ?_
        refine lv_iload_n hx hb dM_set_74 rfl (lv_at hl 4 rfl) ?_
        refine lv_imul hx hb dM_set_75 ?_
        refine lv_iload hx hb dM_set_76 (lv_at hl 0 rfl) ?_
        refine lv_iadd hx hb dM_set_78 ?_
        refine lv_iload hx hb dM_set_79 (lv_at hl 1 rfl) ?_
        refine lv_bipush (v := (64 : Int32)) hx hb dM_set_81 (by decide) ?_
        refine lv_irem hx hb dM_set_83 (by decide) ?_
        refine va_iast hx hb hK hP hD hS 2 1 rfl rfl (in_96 c_1 (by unfold vp_in; decide)) dM_set_84 (fun H locs hP hD hS => ?_)
        have hP : va_P (dC, dI) vwCl (wsM h0 q1 q2 q3 q4 k1 k2 k3 k4 (upd g a1.toNatClampNeg (vp_nar .boolean v_8)) (upd (upd (upd (upd b (((6 : Int32) * a1) + (5 : Int32)).toNatClampNeg (v_11 - v_11 / (64 : Int32) * (64 : Int32))) (((6 : Int32) * a1) + (4 : Int32)).toNatClampNeg ((v_11 / (64 : Int32)) - (v_11 / (64 : Int32)) / (64 : Int32) * (64 : Int32))) (((6 : Int32) * a1) + (3 : Int32)).toNatClampNeg (x_12 - x_12 / (64 : Int32) * (64 : Int32))) (((6 : Int32) * a1) + (2 : Int32)).toNatClampNeg ((x_12 / (64 : Int32)) - (x_12 / (64 : Int32)) / (64 : Int32) * (64 : Int32))) t w) H := hP
        have hD : va_D A (wsM h0 q1 q2 q3 q4 k1 k2 k3 k4 (upd g a1.toNatClampNeg (vp_nar .boolean v_8)) (upd (upd (upd (upd b (((6 : Int32) * a1) + (5 : Int32)).toNatClampNeg (v_11 - v_11 / (64 : Int32) * (64 : Int32))) (((6 : Int32) * a1) + (4 : Int32)).toNatClampNeg ((v_11 / (64 : Int32)) - (v_11 / (64 : Int32)) / (64 : Int32) * (64 : Int32))) (((6 : Int32) * a1) + (3 : Int32)).toNatClampNeg (x_12 - x_12 / (64 : Int32) * (64 : Int32))) (((6 : Int32) * a1) + (2 : Int32)).toNatClampNeg ((x_12 / (64 : Int32)) - (x_12 / (64 : Int32)) / (64 : Int32) * (64 : Int32))) t w) := hD
        refine lv_iload hx hb dM_set_85 (lv_at hl 1 rfl) ?_
        refine lv_bipush (v := (64 : Int32)) hx hb dM_set_87 (by decide) ?_
        refine lv_idiv hx hb dM_set_89 (by decide) ?_
        refine lv_topi (fun x_13 ex_13 => ?_)
        refine lv_istore (lv' := [(5, .int x_13), (6, .int (2 : Int32)), (4, .int (-1073741824 : Int32)), (0, .ref h0), (1, .int a1), (2, .int a2), (3, .int a3)]) hx hb dM_set_90 hl (by decide) rfl (fun ls hl => ?_)
        refine lv_iinc (v := (1 : Int32)) (lv' := [(6, .int (1 : Int32)), (5, .int x_13), (4, .int (-1073741824 : Int32)), (0, .ref h0), (1, .int a1), (2, .int a2), (3, .int a3)]) hx hb dM_set_92 hl (k := 1) rfl (by decide) (by decide) rfl (fun ls hl => ?_)
        refine lv_goto (tgt := 63) hx hb dM_set_95 (by decide) ?_
        refine lv_iload hx hb dM_set_63 (lv_at hl 0 rfl) ?_
        refine lv_if_le (tgt := 98) hx hb dM_set_65 (by decide) (fun c0 => absurd c0 (by decide)) (fun _ => ?_)
        refine lv_aload_n hx hb dM_set_68 rfl (lv_at hl 3 rfl) ?_
        refine va_get (D := (dC, dI)) (ci := 1) (v := .ref q2) (C := RM) (T := TM) (N := 4) hx hb hts iM hown hK hP 0 rfl rfl 1 (by decide) (hts _ tw_215) (fun _ h9 => h9) rfl dM_set_69 ?_
        refine lv_bipush (v := (6 : Int32)) hx hb dM_set_72 (by decide) ?_
        refine lv_iload_n hx hb dM_set_74 rfl (lv_at hl 4 rfl) ?_
        refine lv_imul hx hb dM_set_75 ?_
        refine lv_iload hx hb dM_set_76 (lv_at hl 0 rfl) ?_
        refine lv_iadd hx hb dM_set_78 ?_
        refine lv_iload hx hb dM_set_79 (lv_at hl 1 rfl) ?_
        refine lv_bipush (v := (64 : Int32)) hx hb dM_set_81 (by decide) ?_
        refine lv_irem hx hb dM_set_83 (by decide) ?_
        refine va_iast hx hb hK hP hD hS 2 1 rfl rfl (in_96 c_1 (by unfold vp_in; decide)) dM_set_84 (fun H locs hP hD hS => ?_)
        have hP : va_P (dC, dI) vwCl (wsM h0 q1 q2 q3 q4 k1 k2 k3 k4 (upd g a1.toNatClampNeg (vp_nar .boolean v_8)) (upd (upd (upd (upd (upd b (((6 : Int32) * a1) + (5 : Int32)).toNatClampNeg (v_11 - v_11 / (64 : Int32) * (64 : Int32))) (((6 : Int32) * a1) + (4 : Int32)).toNatClampNeg ((v_11 / (64 : Int32)) - (v_11 / (64 : Int32)) / (64 : Int32) * (64 : Int32))) (((6 : Int32) * a1) + (3 : Int32)).toNatClampNeg (x_12 - x_12 / (64 : Int32) * (64 : Int32))) (((6 : Int32) * a1) + (2 : Int32)).toNatClampNeg ((x_12 / (64 : Int32)) - (x_12 / (64 : Int32)) / (64 : Int32) * (64 : Int32))) (((6 : Int32) * a1) + (1 : Int32)).toNatClampNeg (x_13 - x_13 / (64 : Int32) * (64 : Int32))) t w) H := hP
        have hD : va_D A (wsM h0 q1 q2 q3 q4 k1 k2 k3 k4 (upd g a1.toNatClampNeg (vp_nar .boolean v_8)) (upd (upd (upd (upd (upd b (((6 : Int32) * a1) + (5 : Int32)).toNatClampNeg (v_11 - v_11 / (64 : Int32) * (64 : Int32))) (((6 : Int32) * a1) + (4 : Int32)).toNatClampNeg ((v_11 / (64 : Int32)) - (v_11 / (64 : Int32)) / (64 : Int32) * (64 : Int32))) (((6 : Int32) * a1) + (3 : Int32)).toNatClampNeg (x_12 - x_12 / (64 : Int32) * (64 : Int32))) (((6 : Int32) * a1) + (2 : Int32)).toNatClampNeg ((x_12 / (64 : Int32)) - (x_12 / (64 : Int32)) / (64 : Int32) * (64 : Int32))) (((6 : Int32) * a1) + (1 : Int32)).toNatClampNeg (x_13 - x_13 / (64 : Int32) * (64 : Int32))) t w) := hD
        refine lv_iload hx hb dM_set_85 (lv_at hl 1 rfl) ?_
        refine lv_bipush (v := (64 : Int32)) hx hb dM_set_87 (by decide) ?_
        refine lv_idiv hx hb dM_set_89 (by decide) ?_
        refine lv_istore (lv' := [(5, .int (x_13 / (64 : Int32))), (6, .int (1 : Int32)), (4, .int (-1073741824 : Int32)), (0, .ref h0), (1, .int a1), (2, .int a2), (3, .int a3)]) hx hb dM_set_90 hl (by decide) rfl (fun ls hl => ?_)
        refine lv_iinc (v := (0 : Int32)) (lv' := [(6, .int (0 : Int32)), (5, .int (x_13 / (64 : Int32))), (4, .int (-1073741824 : Int32)), (0, .ref h0), (1, .int a1), (2, .int a2), (3, .int a3)]) hx hb dM_set_92 hl (k := 1) rfl (by decide) (by decide) rfl (fun ls hl => ?_)
        refine lv_goto (tgt := 63) hx hb dM_set_95 (by decide) ?_
        refine lv_iload hx hb dM_set_63 (lv_at hl 0 rfl) ?_
        refine lv_if_le (tgt := 98) hx hb dM_set_65 (by decide) (fun _ => ?_) (fun c0 => absurd (by decide) c0)
        refine lv_iconst (v := (1 : Int32)) hx hb dM_set_98 (by decide) ?_
        have eu_g : upd g a1.toNatClampNeg (vp_nar .boolean v_8) = (u_M_set_g g b t w a1 a2 a3) := (by subst ev_8; subst ev_11; subst ex_12; subst ex_13; unfold u_M_set_g; rw [if_neg c_1, if_neg c_2, if_pos c_3])
        have eu_b : upd (upd (upd (upd (upd b (((6 : Int32) * a1) + (5 : Int32)).toNatClampNeg (v_11 - v_11 / (64 : Int32) * (64 : Int32))) (((6 : Int32) * a1) + (4 : Int32)).toNatClampNeg ((v_11 / (64 : Int32)) - (v_11 / (64 : Int32)) / (64 : Int32) * (64 : Int32))) (((6 : Int32) * a1) + (3 : Int32)).toNatClampNeg (x_12 - x_12 / (64 : Int32) * (64 : Int32))) (((6 : Int32) * a1) + (2 : Int32)).toNatClampNeg ((x_12 / (64 : Int32)) - (x_12 / (64 : Int32)) / (64 : Int32) * (64 : Int32))) (((6 : Int32) * a1) + (1 : Int32)).toNatClampNeg (x_13 - x_13 / (64 : Int32) * (64 : Int32)) = (u_M_set_b g b t w a1 a2 a3) := (by subst ev_8; subst ev_11; subst ex_12; subst ex_13; unfold u_M_set_b; rw [if_neg c_1, if_neg c_2, if_pos c_3])
        have hP9 : va_P (dC, dI) vwCl (wsM h0 q1 q2 q3 q4 k1 k2 k3 k4 ((u_M_set_g g b t w a1 a2 a3)) ((u_M_set_b g b t w a1 a2 a3)) t w) H := by rw [← eu_g, ← eu_b]; exact hP
        have hD9 : va_D A (wsM h0 q1 q2 q3 q4 k1 k2 k3 k4 ((u_M_set_g g b t w a1 a2 a3)) ((u_M_set_b g b t w a1 a2 a3)) t w) := by rw [← eu_g, ← eu_b]; exact hD
        exact W.zret (v := (1 : Int32)) hx hb hr (by decide) (fun tt ht hW => ⟨⟨(1 : Int32), (), rfl, (by subst ev_8; subst ev_11; subst ex_12; subst ex_13; unfold f_M_set; rw [if_neg c_1, if_neg c_2, if_pos c_3]), by rw [ht]; exact hP9, hD9⟩, hS.F ht⟩) hS.2.2 dM_set_99
      · refine lv_iconst (v := (0 : Int32)) hx hb dM_set_23 (by decide) ?_
        have eu_g : g = (u_M_set_g g b t w a1 a2 a3) := (by unfold u_M_set_g; rw [if_neg c_1, if_neg c_2, if_neg c_3])
        have eu_b : b = (u_M_set_b g b t w a1 a2 a3) := (by unfold u_M_set_b; rw [if_neg c_1, if_neg c_2, if_neg c_3])
        have hP9 : va_P (dC, dI) vwCl (wsM h0 q1 q2 q3 q4 k1 k2 k3 k4 ((u_M_set_g g b t w a1 a2 a3)) ((u_M_set_b g b t w a1 a2 a3)) t w) H := by rw [← eu_g, ← eu_b]; exact hP
        have hD9 : va_D A (wsM h0 q1 q2 q3 q4 k1 k2 k3 k4 ((u_M_set_g g b t w a1 a2 a3)) ((u_M_set_b g b t w a1 a2 a3)) t w) := by rw [← eu_g, ← eu_b]; exact hD
        exact W.zret (v := (0 : Int32)) hx hb hr (by decide) (fun tt ht hW => ⟨⟨(0 : Int32), (), rfl, (by unfold f_M_set; rw [if_neg c_1, if_neg c_2, if_neg c_3]), by rw [ht]; exact hP9, hD9⟩, hS.F ht⟩) hS.2.2 dM_set_24
