theorem st_el : ∀ j, j < 56 → Cond.eq (.elem (.field (.string "WordFields" 51) "java/lang/String" "value" "[B") (.int (Int32.ofNat j))) (.int (sby j)) ∈ flatC (Jvm.Cond.and given_1 narrow_1) := by decide +kernel
set_option maxHeartbeats 40000000 in
set_option maxRecDepth 100000 in
/-- THE LAW, from its entry -/
theorem whole_start {p : Program} {e : Env} {s : State} {m : MethodId} {below : List Frame} {meth : Method} {c : Code} (l : Launch) {b L : Nat} {xs : Nat → Int32} (hL : L ≤ 2048) (C0 : lw_At p s m meth c b L xs) : W p l e room_1 s m #[Value.ref b] below meth c s.heap [] 0 0 (lw_Z below #[Value.ref b] s) (entryFrame m ([Value.ref b] : List Value).toArray 4) := by
  obtain ⟨hx, hb, hr, hml, hown, hts, hX, hbl, hlocks, hgv⟩ := id C0
  have hts0 := hts
  have hts := fun (w : Cond) (h : w ∈ gw) => hts w (gw_in h)
  have hA : ∀ q : Nat, s.heap.size ≤ q → (fun q : Nat => s.heap.size ≤ q) q := fun _ h => h
  have hbA : ¬ (fun q : Nat => s.heap.size ≤ q) b := Nat.not_le.mpr hbl
  obtain ⟨c0, iS0, hKn0⟩ := u_known (C := RF) (T := TF) (N := 1) (n := 1) hts iF (hts _ tw_10)
  obtain ⟨c1, iS1, hKn1⟩ := u_known (C := RM) (T := TM) (N := 4) (n := 4) hts iM (hts _ tw_209)
  obtain ⟨dC, dI, hKc⟩ : ∃ (dC : Nat → ClassId) (dI : Nat → Nat → Nat), ∀ (k : Nat) (q : vw_C), vwCl[k]? = some q → u_Kn s q.1 q.2.1 q.2.2 (dC k) (dI k) := by
    refine ⟨fun k => if k = 0 then c0 else c1, fun k => if k = 0 then iS0 else iS1, ?_⟩
    intro k q hq
    match k, hq with
    | 0, hq => cases hq; exact hKn0
    | 1, hq => cases hq; exact hKn1
    | k + 2, hq => simp [vwCl] at hq
  have hS : va_S (fun q : Nat => s.heap.size ≤ q) s.heap s.heap [] := va_S.rf
  have hK : va_K (dC, dI) vwCl [] s := ⟨hKc, fun k q h => by simp at h⟩
  have hP : va_P (dC, dI) vwCl [] s.heap := fun k q h => by simp at h
  have hD : va_D (fun q : Nat => s.heap.size ≤ q) [] := ⟨fun i j p q h => by simp at h, fun k q h => by simp at h⟩
  have hs := flat_of_before _ hgv
  have hex : (Cond.exactly (.string "WordFields" 51) "java/lang/String").before #[Value.ref b] s = true := hs _ (by decide +kernel)
  have hco : (Cond.eq (.field (.string "WordFields" 51) "java/lang/String" "coder" "B") (.int 0)).before #[Value.ref b] s = true := hs _ (by decide +kernel)
  have har : (Cond.arrayOf (.field (.string "WordFields" 51) "java/lang/String" "value" "[B") .byte).before #[Value.ref b] s = true := hs _ (by decide +kernel)
  have hle : (Cond.eq (.length (.field (.string "WordFields" 51) "java/lang/String" "value" "[B")) (.int (Int32.ofNat 56))).before #[Value.ref b] s = true := hs _ (by decide +kernel)
  have hel : ∀ j : Nat, j < 56 → (Cond.eq (.elem (.field (.string "WordFields" 51) "java/lang/String" "value" "[B") (.int (Int32.ofNat j))) (.int (sby j))).before #[Value.ref b] s = true := fun j hj => hs _ (st_el j hj)
  have hcs : (Cond.eq (.static "java/lang/String" "COMPACT_STRINGS" "Z") (.int 1)).before #[Value.ref b] s = true := hs _ (by decide +kernel)
  have hzq : (Cond.isRef (.static "jdk/internal/util/Preconditions" "SIOOBE_FORMATTER" "Ljava/util/function/BiFunction;")).before #[Value.ref b] s = true := hs _ (by decide +kernel)
  have hnA : ∀ a : Nat, a < s.heap.size → ¬ (fun q : Nat => s.heap.size ≤ q) a := fun a h9 => Nat.not_le.mpr h9
  obtain ⟨adK, adV, hV, hEv⟩ := vk_Sof (A := (fun q : Nat => s.heap.size ≤ q)) (tm := fun _ => .string "WordFields" 51) (len := [56]) (byt := [ltL]) (N := 1) (fun i hi => by rcases (show i = 0 by omega) with rfl; decide) (fun _ _ => hex) (fun _ _ => hco) (fun _ _ => har) (fun i hi => by rcases (show i = 0 by omega) with rfl; exact hle) (fun i hi j hj => by rcases (show i = 0 by omega) with rfl; exact hel j hj) (fun i j hi hj hij => absurd (by omega) hij) hnA
  obtain ⟨hV1, hV2, hV3, hV4⟩ := hV.1 0 (by decide)
  obtain ⟨sK, esK⟩ : ∃ z, z = adK 0 := ⟨_, rfl⟩
  obtain ⟨sV, esV⟩ : ∃ z, z = adV 0 := ⟨_, rfl⟩
  have hE : sOK sK sV (fun q : Nat => s.heap.size ≤ q) s s.heap := by
    subst esK; subst esV
    exact ⟨hV1, hV2, hV3, hV4, va_Zof (hts0 _ (List.mem_append_right _ (List.mem_of_getElem? (i := 104) rfl))) (hts _ tw_4) (va_eqt hcs) hnA, va_Zqof (hts0 _ (List.mem_append_right _ (List.mem_of_getElem? (i := 120) rfl))) (hts _ tw_6) hzq hnA, vk_R.of (hts0 _ (List.mem_append_right _ (List.mem_of_getElem? (i := 94) rfl))) (hEv 0 (by decide))⟩
  have hl := lv_entry ([.ref b]) (n := 4) (Nat.le_of_ble_eq_true rfl)
  rw [lg_entry_eq]
  generalize (lg_sl ([.ref b]) ++ List.replicate (4 - (lg_sl ([.ref b])).length) Slot.unset).toArray = ls at hl ⊢
  have hl : lv_has ls 4 [(0, .ref b)] := hl
  refine va_new (ci := 0) (fs := [.null]) (C := RF) (T := TF) (N := 1) hx hb hts iF tyF tyF_ok hown (hts _ tw_9) (hts _ tw_10) (hts _ tw_1) hK hP hD hS hA rfl (fun j hj => by rcases (show j = 0 by omega) with rfl <;> rfl) (Nat.le_of_ble_eq_true rfl) (Nat.le_of_ble_eq_true rfl) dL_law_0 (fun hF H hP hD hS => ?_)
  have hP : va_P (dC, dI) vwCl [(hF, .inr (0, [.null]))] H := hP
  have hD : va_D (fun q : Nat => s.heap.size ≤ q) [(hF, .inr (0, [.null]))] := hD
  refine W.widen (k := 1) (n := 1) (by omega) (by omega) ?_
  refine lv_dup hx hb dL_law_3 rfl ?_
  have hPc := hP.sub (ws' := [(hF, .inr (0, [.null]))]) [0] rfl
  have hDc := hD.sub (ws' := [(hF, .inr (0, [.null]))]) [0] (by decide) rfl
  have hKc := hK.sub (tys' := []) [] rfl
  have hFc := va_free (wc := [(hF, .inr (0, [.null]))]) hD hS hA [0] rfl
  refine va_callv (va_runI (As := []) (rest := [.ref hF]) ⟨hx, hb, hml, hown, hts⟩ (c_F_init l dC dI hF H.size) (cwI 0 hts (gI tw_13) rfl rfl rfl (hts _ tw_1) (hts _ tw_11) (hts _ tw_12) rfl (by decide +kernel) ⟨Nat.le_of_ble_eq_true rfl, Nat.le_of_ble_eq_true rfl⟩) ⟨fun a U g mk q => ⟨q.1, q.2.1, q.2.2.1, va_K.moved (u := U) (U := U.calling g mk a) (Vm.Alike.refl U.vm) q.2.2.2.1, q.2.2.2.2⟩, fun U hU hW => ⟨rfl, by rw [hU], by rw [hU]; exact hPc, va_K.moved hW.alike hKc, hDc.weaken (fun _ _ _ _ => trivial)⟩⟩ rfl rfl hl.1 rfl (lv_room (Nat.le_of_ble_eq_true rfl)) dL_law_4 ⟨Nat.le_of_ble_eq_true rfl, Nat.le_of_ble_eq_true rfl⟩) hS (fun q _ h => hFc q h) hFc (fun u t H1 locs ht hvm hw hB hz1 hk1 hS => ?_)
  obtain ⟨qF, kF, hP1, hK1, hD1⟩ := hB
  rw [ht] at hP1
  have hK1 := va_K.moved hvm.symm hK1
  obtain ⟨hP, hD⟩ := va_join (wr := []) (w1 := wsF hF qF kF (fun _ => 0)) hP hD [0] [] rfl rfl (by decide) (by decide) hk1 hFc hP1 hD1
  have hK := (hK.sub [] rfl).app hK1
  generalize H1 = H at hP hS ⊢
  have hP : va_P (dC, dI) vwCl (wsF hF qF kF (fun _ => 0)) H := hP
  have hD : va_D (fun q : Nat => s.heap.size ≤ q) (wsF hF qF kF (fun _ => 0)) := hD
  have hK : va_K (dC, dI) vwCl [(kF, .int)] s := hK
  refine W.widen (k := 2) (n := 17) (by omega) (by omega) ?_
  refine lv_astore_n (lv' := [(1, .ref hF), (0, .ref b)]) hx hb dL_law_7 rfl hl (by decide) rfl (fun ls hl => ?_)
  refine va_new (ci := 1) (fs := [.null, .null, .null, .null]) (C := RM) (T := TM) (N := 4) hx hb hts iM tyM tyM_ok hown (hts _ tw_208) (hts _ tw_209) (hts _ tw_2) hK hP hD hS hA rfl (fun j hj => by rcases (show j = 0 ∨ j = 1 ∨ j = 2 ∨ j = 3 by omega) with rfl | rfl | rfl | rfl <;> rfl) (Nat.le_of_ble_eq_true rfl) (Nat.le_of_ble_eq_true rfl) dL_law_8 (fun hM H hP hD hS => ?_)
  have hP : va_P (dC, dI) vwCl ((wsF hF qF kF (fun _ => 0)) ++ [(hM, .inr (1, [.null, .null, .null, .null]))]) H := hP
  have hD : va_D (fun q : Nat => s.heap.size ≤ q) ((wsF hF qF kF (fun _ => 0)) ++ [(hM, .inr (1, [.null, .null, .null, .null]))]) := hD
  refine W.widen (k := 3) (n := 21) (by omega) (by omega) ?_
  refine lv_dup hx hb dL_law_11 rfl ?_
  have hPc := hP.sub (ws' := [(hM, .inr (1, [.null, .null, .null, .null]))]) [2] rfl
  have hDc := hD.sub (ws' := [(hM, .inr (1, [.null, .null, .null, .null]))]) [2] (by decide) rfl
  have hKc := hK.sub (tys' := []) [] rfl
  have hFc := va_free (wc := [(hM, .inr (1, [.null, .null, .null, .null]))]) hD hS hA [2] rfl
  refine va_callv (va_runI (As := []) (rest := [.ref hM]) ⟨hx, hb, hml, hown, hts⟩ (c_M_init l dC dI hM H.size) (cwI 0 hts (gI tw_212) rfl rfl rfl (hts _ tw_2) (hts _ tw_210) (hts _ tw_211) rfl (by decide +kernel) ⟨Nat.le_of_ble_eq_true rfl, Nat.le_of_ble_eq_true rfl⟩) ⟨fun a U g mk q => ⟨q.1, q.2.1, q.2.2.1, va_K.moved (u := U) (U := U.calling g mk a) (Vm.Alike.refl U.vm) q.2.2.2.1, q.2.2.2.2⟩, fun U hU hW => ⟨rfl, by rw [hU], by rw [hU]; exact hPc, va_K.moved hW.alike hKc, hDc.weaken (fun _ _ _ _ => trivial)⟩⟩ rfl rfl hl.1 rfl (lv_room (Nat.le_of_ble_eq_true rfl)) dL_law_12 ⟨Nat.le_of_ble_eq_true rfl, Nat.le_of_ble_eq_true rfl⟩) hS (fun q _ h => hFc q h) hFc (fun u t H1 locs ht hvm hw hB hz1 hk1 hS => ?_)
  obtain ⟨q1, q2, q3, q4, k1, k2, k3, k4, hP1, hK1, hD1⟩ := hB
  rw [ht] at hP1
  have hK1 := va_K.moved hvm.symm hK1
  obtain ⟨hP, hD⟩ := va_join (wr := (wsF hF qF kF (fun _ => 0))) (w1 := wsM hM q1 q2 q3 q4 k1 k2 k3 k4 (fun _ => 0) (fun _ => 0) (ltS 56) (fun _ => 0)) hP hD [2] [0, 1] rfl rfl (by decide) (by decide) hk1 hFc hP1 hD1
  have hK := (hK.sub [0] rfl).app hK1
  generalize H1 = H at hP hS ⊢
  have hP : va_P (dC, dI) vwCl (wsL hF qF kF hM q1 q2 q3 q4 k1 k2 k3 k4 (fun _ => 0) (fun _ => 0) (fun _ => 0) (ltS 56) (fun _ => 0)) H := hP
  have hD : va_D (fun q : Nat => s.heap.size ≤ q) (wsL hF qF kF hM q1 q2 q3 q4 k1 k2 k3 k4 (fun _ => 0) (fun _ => 0) (fun _ => 0) (ltS 56) (fun _ => 0)) := hD
  have hK : va_K (dC, dI) vwCl [(kF, .int), (k1, .boolean), (k2, .int), (k3, .int), (k4, .int)] s := hK
  refine W.widen (k := 7) (n := 195) (by omega) (by omega) ?_
  refine lv_astore_n (lv' := [(2, .ref hM), (1, .ref hF), (0, .ref b)]) hx hb dL_law_15 rfl hl (by decide) rfl (fun ls hl => ?_)
  refine lv_iconst (v := 0) hx hb dL_law_16 (by decide) ?_
  refine lv_istore_n (lv' := [(3, .int 0), (2, .ref hM), (1, .ref hF), (0, .ref b)]) hx hb dL_law_17 rfl hl (by decide) rfl (fun ls hl => ?_)
  exact law_loop (sK := sK) (sV := sV) hL C0 hK hE (L + 1) 0 (Nat.zero_le L) (by omega) _ _ _ _ _ Rel_0 rfl H _ hP hD hS ls (lv_sub hl [0, 3, 2, 1] rfl)
