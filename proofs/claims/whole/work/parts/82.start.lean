theorem z_str {args : Array Value} {s : State} {own tx : String} {k : Nat} (h1 : (Cond.stringRef own k tx).before args s = true) (h2 : (Cond.exactly (.string own k) "java/lang/String").before args s = true) : ∃ a, vk_R own k tx a s := by
  obtain ⟨a, c, cell, kk, h, -⟩ := Cond.exactly_spec h2
  exact ⟨a, vk_R.of h1 h⟩
theorem z_arrc {args : Array Value} {s : State} {ty : FieldType} (h : (Cond.arrayClass ty).before args s = true) : ∃ cA : ClassId, ArrOfT s cA ty ∧ s.vm.findClass ("[" ++ ty.toString) = some cA := by
  obtain ⟨c, k, comp, h1, h2, h3⟩ := Cond.arrayClass_spec h
  exact ⟨c, fun n z => ⟨fun k h => (by cases h), k, h2, comp, h3⟩, h1⟩
theorem z_arro {args : Array Value} {s : State} {C : String} (h : (Cond.arrayOver (.object C)).before args s = true) : ∃ cA : ClassId, ArrOfT s cA (.object C) ∧ va_RA s cA (.object C) := by
  obtain ⟨comp, c, k, h1, h2, h3, h4, h5⟩ := Cond.arrayOver_spec h
  exact ⟨c, fun n z => ⟨fun k h => (by cases h), k, h3, comp, h4⟩, k, comp, h3, h4, h1, h5⟩
/-- what the pure part has to give: at the start, a value I for all runs, and each kind of call keeps it and answers alike -/
def S_start (c0 r0 : zS) (z : Nat) : Prop := ∀ (ms mo ou : Nat) (K1 : Nat → Nat) (L1 : List Nat) (c1 : zS) (K2 : Nat → Nat) (L2 : List Nat) (r2 : zS), 255 ≤ (fun _ : Nat => 255) ms → g_X6_init (va_up (fun _ => 255) ms 6) ([] ++ [ms]) (znw c0 ms) ms K1 L1 c1 → 255 ≤ K1 mo → g_X7_init (va_up K1 mo 7) (L1 ++ [mo]) (znw r0 mo) mo K2 L2 r2 → 255 ≤ K2 ou →
  ∃ I : Nat → (Nat → Nat) → List Nat → zS → zS → Prop, (∀ n K L c r, I n K L c r → K ms = 6 ∧ K mo = 7 ∧ K ou = 17) ∧ (∀ n K L c r, I n K L c r → I (n + 1) K L c r) ∧ I 0 (va_up K2 ou 17) (L2 ++ [ou]) (znw c1 ou) r2 ∧ S_0 I z ms mo ou ∧ S_1 I z ms mo ou ∧ S_2 I z ms mo ou ∧ S_3 I z ms mo ou ∧ S_4 I z ms mo ou ∧ S_5 I z ms mo ou ∧ S_6 I z ms mo ou ∧ S_7 I z ms mo ou ∧ S_8 I z ms mo ou ∧ S_9 I z ms mo ou ∧ S_10 I z ms mo ou ∧ S_11 I z ms mo ou ∧ S_12 I z ms mo ou ∧ S_13 I z ms mo ou ∧ S_14 I z ms mo ou ∧ S_15 I z ms mo ou ∧ S_16 I z ms mo ou ∧ S_17 I z ms mo ou ∧ S_18 I z ms mo ou ∧ S_19 I z ms mo ou ∧ S_20 I z ms mo ou ∧ S_21 I z ms mo ou ∧ S_22 I z ms mo ou ∧ S_23 I z ms mo ou ∧ S_24 I z ms mo ou ∧ S_25 I z ms mo ou ∧ S_26 I z ms mo ou ∧ S_27 I z ms mo ou ∧ S_28 I z ms mo ou ∧ S_29 I z ms mo ou
set_option maxHeartbeats 16000000 in
set_option maxRecDepth 100000 in
/-- THE LAW, from its entry, over S_start -/
theorem whole_start_open {p : Program} {e : Env} {s : State} {m : MethodId} {below : List Frame} {meth : Method} {cd : Code} (c0 r0 : zS) (z : Nat) (hS : S_start c0 r0 z) (l : Launch) (hflags : l.flags = flags0) {b L : Nat} {xs : Nat → Int32} (hL : L ≤ 2560) (C0 : lw_At p s m meth cd b L xs) : W p l e room_1 s m #[Value.ref b] below meth cd s.heap [] 0 0 (lw_Z below #[Value.ref b] s) (entryFrame m ([Value.ref b] : List Value).toArray 8) := by
  obtain ⟨hx, hb, hr, hml, hown, hts0, hX, hbl, hlocks, hgv⟩ := id C0
  have hs := flat_of_before _ hgv
  obtain ⟨k0, i0, hKn0⟩ := u_known (C := RX0) (T := TX0) (N := 3) (n := 3) hts0 inX0 (hts0 (.instantiable RX0 3) (by decide +kernel))
  obtain ⟨k1, i1, hKn1⟩ := u_known (C := RX1) (T := TX1) (N := 3) (n := 3) hts0 inX1 (hts0 (.instantiable RX1 3) (by decide +kernel))
  obtain ⟨k2, i2, hKn2⟩ := u_known (C := RX2) (T := TX2) (N := 8) (n := 8) hts0 inX2 (hts0 (.instantiable RX2 8) (by decide +kernel))
  obtain ⟨k3, i3, hKn3⟩ := u_known (C := RX3) (T := TX3) (N := 6) (n := 6) hts0 inX3 (hts0 (.instantiable RX3 6) (by decide +kernel))
  obtain ⟨k4, i4, hKn4⟩ := u_known (C := RX4) (T := TX4) (N := 14) (n := 14) hts0 inX4 (hts0 (.instantiable RX4 14) (by decide +kernel))
  obtain ⟨k5, i5, hKn5⟩ := u_known (C := RX5) (T := TX5) (N := 4) (n := 4) hts0 inX5 (hts0 (.instantiable RX5 4) (by decide +kernel))
  obtain ⟨k6, i6, hKn6⟩ := u_known (C := RX6) (T := TX6) (N := 18) (n := 18) hts0 inX6 (hts0 (.instantiable RX6 18) (by decide +kernel))
  obtain ⟨k7, i7, hKn7⟩ := u_known (C := RX7) (T := TX7) (N := 51) (n := 51) hts0 inX7 (hts0 (.instantiable RX7 51) (by decide +kernel))
  obtain ⟨dC, dI, hKc⟩ : ∃ (dC : Nat → ClassId) (dI : Nat → Nat → Nat), ∀ (k : Nat) (q : vw_C), vwCl[k]? = some q → u_Kn s q.1 q.2.1 q.2.2 (dC k) (dI k) := by
    refine ⟨fun k => if k = 0 then k0 else if k = 1 then k1 else if k = 2 then k2 else if k = 3 then k3 else if k = 4 then k4 else if k = 5 then k5 else if k = 6 then k6 else k7, fun k => if k = 0 then i0 else if k = 1 then i1 else if k = 2 then i2 else if k = 3 then i3 else if k = 4 then i4 else if k = 5 then i5 else if k = 6 then i6 else i7, ?_⟩
    intro k q hq
    match k, hq with
    | 0, hq => cases hq; exact hKn0
    | 1, hq => cases hq; exact hKn1
    | 2, hq => cases hq; exact hKn2
    | 3, hq => cases hq; exact hKn3
    | 4, hq => cases hq; exact hKn4
    | 5, hq => cases hq; exact hKn5
    | 6, hq => cases hq; exact hKn6
    | 7, hq => cases hq; exact hKn7
    | k + 8, hq => simp [vwCl] at hq
  obtain ⟨y0, ya0, yb0⟩ := z_arrc (hts0 (.arrayClass .int) (by decide +kernel))
  obtain ⟨y1, ya1, yb1⟩ := z_arrc (hts0 (.arrayClass .byte) (by decide +kernel))
  obtain ⟨y2, ya2, yb2⟩ := z_arrc (hts0 (.arrayClass .boolean) (by decide +kernel))
  obtain ⟨y3, ya3, yb3⟩ := z_arrc (hts0 (.arrayClass .long) (by decide +kernel))
  obtain ⟨y4, ya4, yb4⟩ := z_arro (hts0 (.arrayOver (.object RX0)) (by decide +kernel))
  obtain ⟨y5, ya5, yb5⟩ := z_arro (hts0 (.arrayOver (.object RX3)) (by decide +kernel))
  obtain ⟨y6, ya6, yb6⟩ := z_arro (hts0 (.arrayOver (.object RX4)) (by decide +kernel))
  obtain ⟨cy, hcy⟩ : ∃ cy : Nat → ClassId, cy 0 = y0 ∧ cy 1 = y1 ∧ cy 2 = y2 ∧ cy 3 = y3 ∧ cy 4 = y4 ∧ cy 5 = y5 ∧ cy 6 = y6 := ⟨fun k => if k = 0 then y0 else if k = 1 then y1 else if k = 2 then y2 else if k = 3 then y3 else if k = 4 then y4 else if k = 5 then y5 else y6, rfl, rfl, rfl, rfl, rfl, rfl, rfl⟩
  obtain ⟨e0, e1, e2, e3, e4, e5, e6⟩ := hcy
  subst e0; subst e1; subst e2; subst e3; subst e4; subst e5; subst e6
  have hK : va_K (dC, dI) vwCl (ztys cy) s := by
    refine ⟨hKc, fun k q hq => ?_⟩
    match k, hq with
    | 0, hq => cases hq; exact ⟨ya0, yb0⟩
    | 1, hq => cases hq; exact ⟨ya1, yb1⟩
    | 2, hq => cases hq; exact ⟨ya2, yb2⟩
    | 3, hq => cases hq; exact ⟨ya3, yb3⟩
    | 4, hq => cases hq; exact ⟨ya4, yb4⟩
    | 5, hq => cases hq; exact ⟨ya5, yb5⟩
    | 6, hq => cases hq; exact ⟨ya6, yb6⟩
    | k + 7, hq => simp [ztys] at hq
  obtain ⟨s0, hs0⟩ := z_str (own := RX6) (k := 40) (tx := "a row has 0 to 200 places") (hts0 (.stringRef RX6 40 "a row has 0 to 200 places") (by decide +kernel)) (hs (.exactly (.string RX6 40) "java/lang/String") (by decide +kernel))
  obtain ⟨s1, hs1⟩ := z_str (own := RX6) (k := 59) (tx := "no such place") (hts0 (.stringRef RX6 59 "no such place") (by decide +kernel)) (hs (.exactly (.string RX6 59) "java/lang/String") (by decide +kernel))
  obtain ⟨s2, hs2⟩ := z_str (own := RX6) (k := 62) (tx := "what is 0 to 2") (hts0 (.stringRef RX6 62 "what is 0 to 2") (by decide +kernel)) (hs (.exactly (.string RX6 62) "java/lang/String") (by decide +kernel))
  obtain ⟨s3, hs3⟩ := z_str (own := RX6) (k := 68) (tx := "a rate is 0 to 1000") (hts0 (.stringRef RX6 68 "a rate is 0 to 1000") (by decide +kernel)) (hs (.exactly (.string RX6 68) "java/lang/String") (by decide +kernel))
  obtain ⟨s4, hs4⟩ := z_str (own := RX6) (k := 70) (tx := "a limit is 1 to 200") (hts0 (.stringRef RX6 70 "a limit is 1 to 200") (by decide +kernel)) (hs (.exactly (.string RX6 70) "java/lang/String") (by decide +kernel))
  obtain ⟨s5, hs5⟩ := z_str (own := RX6) (k := 78) (tx := "there are 20 trades") (hts0 (.stringRef RX6 78 "there are 20 trades") (by decide +kernel)) (hs (.exactly (.string RX6 78) "java/lang/String") (by decide +kernel))
  obtain ⟨s6, hs6⟩ := z_str (own := RX6) (k := 96) (tx := "a kind is 0 to 4") (hts0 (.stringRef RX6 96 "a kind is 0 to 4") (by decide +kernel)) (hs (.exactly (.string RX6 96) "java/lang/String") (by decide +kernel))
  obtain ⟨s7, hs7⟩ := z_str (own := RX6) (k := 98) (tx := "a front is 1 to 20") (hts0 (.stringRef RX6 98 "a front is 1 to 20") (by decide +kernel)) (hs (.exactly (.string RX6 98) "java/lang/String") (by decide +kernel))
  obtain ⟨s8, hs8⟩ := z_str (own := RX6) (k := 103) (tx := "there are 200 traders") (hts0 (.stringRef RX6 103 "there are 200 traders") (by decide +kernel)) (hs (.exactly (.string RX6 103) "java/lang/String") (by decide +kernel))
  obtain ⟨s9, hs9⟩ := z_str (own := RX6) (k := 118) (tx := "only regulars and farmers have a pitch") (hts0 (.stringRef RX6 118 "only regulars and farmers have a pitch") (by decide +kernel)) (hs (.exactly (.string RX6 118) "java/lang/String") (by decide +kernel))
  obtain ⟨s10, hs10⟩ := z_str (own := RX6) (k := 129) (tx := "only farmers have months") (hts0 (.stringRef RX6 129 "only farmers have months") (by decide +kernel)) (hs (.exactly (.string RX6 129) "java/lang/String") (by decide +kernel))
  obtain ⟨s11, hs11⟩ := z_str (own := RX6) (k := 131) (tx := "months are 0 to 4095") (hts0 (.stringRef RX6 131 "months are 0 to 4095") (by decide +kernel)) (hs (.exactly (.string RX6 131) "java/lang/String") (by decide +kernel))
  obtain ⟨s12, hs12⟩ := z_str (own := RX6) (k := 154) (tx := "a month is 0 to 11") (hts0 (.stringRef RX6 154 "a month is 0 to 11") (by decide +kernel)) (hs (.exactly (.string RX6 154) "java/lang/String") (by decide +kernel))
  obtain ⟨s13, hs13⟩ := z_str (own := RX6) (k := 184) (tx := "an hour is not below the one before, nor above 12") (hts0 (.stringRef RX6 184 "an hour is not below the one before, nor above 12") (by decide +kernel)) (hs (.exactly (.string RX6 184) "java/lang/String") (by decide +kernel))
  obtain ⟨s14, hs14⟩ := z_str (own := RX6) (k := 250) (tx := "a sum is 1 to what is owed") (hts0 (.stringRef RX6 250 "a sum is 1 to what is owed") (by decide +kernel)) (hs (.exactly (.string RX6 250) "java/lang/String") (by decide +kernel))
  obtain ⟨s15, hs15⟩ := z_str (own := RX6) (k := 297) (tx := "what is 0 to 16") (hts0 (.stringRef RX6 297 "what is 0 to 16") (by decide +kernel)) (hs (.exactly (.string RX6 297) "java/lang/String") (by decide +kernel))
  obtain ⟨s16, hs16⟩ := z_str (own := RX6) (k := 330) (tx := "not at this time") (hts0 (.stringRef RX6 330 "not at this time") (by decide +kernel)) (hs (.exactly (.string RX6 330) "java/lang/String") (by decide +kernel))
  obtain ⟨s17, hs17⟩ := z_str (own := RX6) (k := 333) (tx := "no such row") (hts0 (.stringRef RX6 333 "no such row") (by decide +kernel)) (hs (.exactly (.string RX6 333) "java/lang/String") (by decide +kernel))
  obtain ⟨s18, hs18⟩ := z_str (own := RX6) (k := 335) (tx := "no such trade") (hts0 (.stringRef RX6 335 "no such trade") (by decide +kernel)) (hs (.exactly (.string RX6 335) "java/lang/String") (by decide +kernel))
  obtain ⟨s19, hs19⟩ := z_str (own := RX6) (k := 337) (tx := "no such trader") (hts0 (.stringRef RX6 337 "no such trader") (by decide +kernel)) (hs (.exactly (.string RX6 337) "java/lang/String") (by decide +kernel))
  obtain ⟨stx, hstx⟩ : ∃ stx : Nat → Nat, ∀ (i : Nat) (q : String × Nat × String), zts0[i]? = some q → vk_R q.1 q.2.1 q.2.2 (stx i) s := by
    refine ⟨fun i => if i = 0 then s0 else if i = 1 then s1 else if i = 2 then s2 else if i = 3 then s3 else if i = 4 then s4 else if i = 5 then s5 else if i = 6 then s6 else if i = 7 then s7 else if i = 8 then s8 else if i = 9 then s9 else if i = 10 then s10 else if i = 11 then s11 else if i = 12 then s12 else if i = 13 then s13 else if i = 14 then s14 else if i = 15 then s15 else if i = 16 then s16 else if i = 17 then s17 else if i = 18 then s18 else s19, ?_⟩
    intro i q hq
    match i, hq with
    | 0, hq => cases hq; exact hs0
    | 1, hq => cases hq; exact hs1
    | 2, hq => cases hq; exact hs2
    | 3, hq => cases hq; exact hs3
    | 4, hq => cases hq; exact hs4
    | 5, hq => cases hq; exact hs5
    | 6, hq => cases hq; exact hs6
    | 7, hq => cases hq; exact hs7
    | 8, hq => cases hq; exact hs8
    | 9, hq => cases hq; exact hs9
    | 10, hq => cases hq; exact hs10
    | 11, hq => cases hq; exact hs11
    | 12, hq => cases hq; exact hs12
    | 13, hq => cases hq; exact hs13
    | 14, hq => cases hq; exact hs14
    | 15, hq => cases hq; exact hs15
    | 16, hq => cases hq; exact hs16
    | 17, hq => cases hq; exact hs17
    | 18, hq => cases hq; exact hs18
    | 19, hq => cases hq; exact hs19
    | i + 20, hq => simp [zts0] at hq
  have hout : ∀ a : Nat, a < s.heap.size → ¬ zA s.heap.size a := fun a h => Nat.not_le.mpr h
  have hJ : zJ zts0 zns0 s.heap.size stx s s.heap := by
    refine ⟨vx_Zqof (hts0 (.laysStatic Bundle.tN "UNASSIGNED_STACK" Bundle.steD) (by decide +kernel)) (hts0 (.initialized Bundle.tN) (by decide +kernel)) (hs (.isRef (.static Bundle.tN "UNASSIGNED_STACK" Bundle.steD)) (by decide +kernel)) hout, vx_Zqof (hts0 (.laysStatic Bundle.tN "SUPPRESSED_SENTINEL" Bundle.listD) (by decide +kernel)) (hts0 (.initialized Bundle.tN) (by decide +kernel)) (hs (.isRef (.static Bundle.tN "SUPPRESSED_SENTINEL" Bundle.listD)) (by decide +kernel)) hout, hstx, fun q hq => va_Nw.of rfl (hts0 _ ?_), fun x hx => va_Nw.of rfl (hts0 _ ?_), fun x hx y hy n => va_Nc.of (hs _ ?_), fun x hx => va_AO.of (hts0 _ ?_), fun x hx => va_Nw.of rfl (hts0 _ ?_)⟩
    · exact (show ∀ q ∈ zns0, Cond.methodLinkNest q.1 q.2.1 q.2.2.1 q.2.2.2 ∈ lw_tbl by decide +kernel) q hq
    · exact (show ∀ x ∈ zxs, Cond.castable x x ∈ lw_tbl by decide +kernel) x hx
    · exact (show ∀ x ∈ zxs, ∀ y ∈ zxs, x ≠ y → Cond.not (.castable x y) ∈ flatC (Cond.and given_1 narrow_1) by decide +kernel) x hx y hy n
    · exact (show ∀ x ∈ zao, Cond.arrayOver (.object x) ∈ lw_tbl by decide +kernel) x hx
    · exact (show ∀ x ∈ zds, Cond.declares (Bundle.initS x) ∈ lw_tbl by decide +kernel) x hx
  have hG : zGW zts0 zns0 (dC, dI) cy s.heap.size stx (fun _ => 255) [] (c0, r0, 0) s := ⟨Nat.le_refl _, fun k q h => by simp [zpool, va_pl] at h, ⟨fun i j p q h => by simp [zpool, va_pl] at h, fun k q h => by simp [zpool, va_pl] at h⟩, hK, fun a h => absurd h (Nat.lt_irrefl 255), hJ⟩
  have hts := fun w h => hts0 w (wsL_law_in w h)
  have hC := hG.enter
  have hst : l.stackTraces = false := by rw [Launch.stackTraces, hflags]; rfl
  have hl := lv_entry ([.ref b]) (n := 8) (Nat.le_of_ble_eq_true rfl)
  rw [lg_entry_eq]
  generalize (lg_sl ([.ref b]) ++ List.replicate (8 - (lg_sl ([.ref b])).length) Slot.unset).toArray = ls at hl ⊢
  have hl : lv_has ls 8 [(0, .ref b)] := hl
  refine z_new (Zn := fun q => (znw c0 q, r0, 0)) (ci := 6) (C := RX6) (T := TX6) (N := 18) (fs := [.null, .null, .null, .null, .null, .int 0, .int 0, .int 0, .int 0, .int 0, .int 0, .int 0, .int 0, .int 0, .long 0, .long 0, .long 0, .long 0]) hx hb hts inlX6 tyX6 tyX6_ok hown (hts (.classLink RL 8 RX6) (by decide +kernel)) (hts (.instantiable RX6 18) (by decide +kernel)) (hts (.initialized RX6) (by decide +kernel)) hK hG.1 hC rfl (fun j hj => by rcases (show j = 0 ∨ j = 1 ∨ j = 2 ∨ j = 3 ∨ j = 4 ∨ j = 5 ∨ j = 6 ∨ j = 7 ∨ j = 8 ∨ j = 9 ∨ j = 10 ∨ j = 11 ∨ j = 12 ∨ j = 13 ∨ j = 14 ∨ j = 15 ∨ j = 16 ∨ j = 17 by omega) with rfl | rfl | rfl | rfl | rfl | rfl | rfl | rfl | rfl | rfl | rfl | rfl | rfl | rfl | rfl | rfl | rfl | rfl <;> rfl) (fun q => by rw [zc_6]; simp [zi_znw, zl_znw, zr_znw, va_rf]) (fun q => zOff.nw) (Nat.le_of_ble_eq_true rfl) (Nat.le_of_ble_eq_true rfl) dL_law_0 (fun ms H hms hC => ?_)
  have hk1 : va_up (fun _ => 255) ms 6 ms = 6 := va_up_self _ _ _
  refine lv_dup hx hb dL_law_3 rfl ?_
  refine z_cvA (z_rI (As := []) (rest := [.ref ms]) ⟨hx, hb, hml, hown, hts⟩ (c_X6_init (l := l) (D := (dC, dI)) (cy := cy) (base := s.heap.size) (st := stx) (K := va_up (fun _ => 255) ms 6) (L := [] ++ [ms]) (c := znw c0 ms) (r := r0) (o := 0) ms hk1) (cwI 0 hts gL_law_X6_init rfl rfl rfl (hts (.initialized RX6) (by decide +kernel)) (hts (.methodLink RL 112 yX6_init) (by decide +kernel)) (hts (.instanceMethod yX6_init) (by decide +kernel)) rfl (by decide +kernel) ⟨(Nat.le_of_ble_eq_true rfl), (Nat.le_of_ble_eq_true rfl)⟩) hG hC rfl hl.1 rfl (lv_room (Nat.le_of_ble_eq_true rfl)) dL_law_4 ⟨(Nat.le_of_ble_eq_true rfl), (Nat.le_of_ble_eq_true rfl)⟩) hC (fun K1 L1 c1 H locs hP1 hC => ?_)
  have hk1 : K1 ms = 6 := (g_X6_init_old hP1 _ (by rw [hk1]; decide)).trans hk1
  refine lv_astore_n (lv' := [(1, .ref ms), (0, .ref b)]) hx hb dL_law_7 rfl hl (by decide) rfl (fun ls hl => ?_)
  refine z_new (Zn := fun q => (c1, znw r0 q, 0)) (ci := 7) (C := RX7) (T := TX7) (N := 51) (fs := [.int 0, .null, .null, .null, .null, .null, .null, .int 0, .null, .null, .null, .null, .null, .null, .null, .null, .null, .null, .null, .null, .null, .null, .null, .null, .null, .null, .null, .null, .null, .null, .null, .null, .null, .null, .null, .int 0, .int 0, .int 0, .int 0, .int 0, .int 0, .int 0, .int 0, .long 0, .long 0, .null, .null, .null, .int 0, .null, .null]) hx hb hts inlX7 tyX7 tyX7_ok hown (hts (.classLink RL 113 RX7) (by decide +kernel)) (hts (.instantiable RX7 51) (by decide +kernel)) (hts (.initialized RX7) (by decide +kernel)) hK hG.1 hC rfl (fun j hj => by rcases (show j = 0 ∨ j = 1 ∨ j = 2 ∨ j = 3 ∨ j = 4 ∨ j = 5 ∨ j = 6 ∨ j = 7 ∨ j = 8 ∨ j = 9 ∨ j = 10 ∨ j = 11 ∨ j = 12 ∨ j = 13 ∨ j = 14 ∨ j = 15 ∨ j = 16 ∨ j = 17 ∨ j = 18 ∨ j = 19 ∨ j = 20 ∨ j = 21 ∨ j = 22 ∨ j = 23 ∨ j = 24 ∨ j = 25 ∨ j = 26 ∨ j = 27 ∨ j = 28 ∨ j = 29 ∨ j = 30 ∨ j = 31 ∨ j = 32 ∨ j = 33 ∨ j = 34 ∨ j = 35 ∨ j = 36 ∨ j = 37 ∨ j = 38 ∨ j = 39 ∨ j = 40 ∨ j = 41 ∨ j = 42 ∨ j = 43 ∨ j = 44 ∨ j = 45 ∨ j = 46 ∨ j = 47 ∨ j = 48 ∨ j = 49 ∨ j = 50 by omega) with rfl | rfl | rfl | rfl | rfl | rfl | rfl | rfl | rfl | rfl | rfl | rfl | rfl | rfl | rfl | rfl | rfl | rfl | rfl | rfl | rfl | rfl | rfl | rfl | rfl | rfl | rfl | rfl | rfl | rfl | rfl | rfl | rfl | rfl | rfl | rfl | rfl | rfl | rfl | rfl | rfl | rfl | rfl | rfl | rfl | rfl | rfl | rfl | rfl | rfl | rfl <;> rfl) (fun q => by rw [zc_7]; simp [zi_znw, zl_znw, zr_znw, va_rf]) (fun q => zOff.mnw) (Nat.le_of_ble_eq_true rfl) (Nat.le_of_ble_eq_true rfl) dL_law_8 (fun mo H hmo hC => ?_)
  have hk1 : va_up K1 mo 7 ms = 6 := zup_old hmo hk1 (by decide)
  have hk2 : va_up K1 mo 7 mo = 7 := va_up_self _ _ _
  refine lv_dup hx hb dL_law_11 rfl ?_
  refine z_cvB (z_rI (As := []) (rest := [.ref mo]) ⟨hx, hb, hml, hown, hts⟩ (c_X7_init (l := l) (D := (dC, dI)) (cy := cy) (base := s.heap.size) (st := stx) (K := va_up K1 mo 7) (L := L1 ++ [mo]) (c := c1) (r := znw r0 mo) (o := 0) mo hk2) (cwI 0 hts gL_law_X7_init rfl rfl rfl (hts (.initialized RX7) (by decide +kernel)) (hts (.methodLink RL 115 yX7_init) (by decide +kernel)) (hts (.instanceMethod yX7_init) (by decide +kernel)) rfl (by decide +kernel) ⟨(Nat.le_of_ble_eq_true rfl), (Nat.le_of_ble_eq_true rfl)⟩) hG hC rfl hl.1 rfl (lv_room (Nat.le_of_ble_eq_true rfl)) dL_law_12 ⟨(Nat.le_of_ble_eq_true rfl), (Nat.le_of_ble_eq_true rfl)⟩) hC (fun K2 L2 r2 H locs hP2 hC => ?_)
  have hk1 : K2 ms = 6 := (g_X7_init_old hP2 _ (by rw [hk1]; decide)).trans hk1
  have hk2 : K2 mo = 7 := (g_X7_init_old hP2 _ (by rw [hk2]; decide)).trans hk2
  refine lv_astore_n (lv' := [(2, .ref mo), (1, .ref ms), (0, .ref b)]) hx hb dL_law_15 rfl hl (by decide) rfl (fun ls hl => ?_)
  refine lv_iconst (v := 1) hx hb dL_law_16 (by decide) ?_
  refine z_newal (Zn := fun q => (znw c1 q, r2, 0)) (lab := 17) (N' := 1) hx hb (hts (.arrayClass .long) (by decide +kernel)) hK hG.1 hC (by decide) (by decide) (by decide) (Nat.le_of_ble_eq_true rfl) (Nat.le_of_ble_eq_true rfl) (fun q => by rw [zc_17]; rw [zl_znq]) (fun q => zOff.nw) dL_law_17 (fun ou H hou hC => ?_)
  have hk3 : va_up K2 ou 17 ou = 17 := va_up_self _ _ _
  refine lv_astore_n (lv' := [(3, .ref ou), (2, .ref mo), (1, .ref ms), (0, .ref b)]) hx hb dL_law_19 rfl hl (by decide) rfl (fun ls hl => ?_)
  refine lv_iconst (v := 0) hx hb dL_law_20 (by decide) ?_
  refine lv_istore (lv' := [(4, .int 0), (3, .ref ou), (2, .ref mo), (1, .ref ms), (0, .ref b)]) hx hb dL_law_21 hl (by decide) rfl (fun ls hl => ?_)
  refine W.widen (k := 600 + 16 * 0) (n := 60000 + 100 * 0) (Nat.le_of_ble_eq_true rfl) (Nat.le_of_ble_eq_true rfl) ?_
  obtain ⟨I, hIK, hI1, hI0, h0, h1, h2, h3, h4, h5, h6, h7, h8, h9, h10, h11, h12, h13, h14, h15, h16, h17, h18, h19, h20, h21, h22, h23, h24, h25, h26, h27, h28, h29⟩ := hS ms mo ou K1 L1 c1 K2 L2 r2 hms hP1 hmo hP2 hou
  exact law_loop hst hL C0 hG I z ms mo ou hIK hI1 h0 h1 h2 h3 h4 h5 h6 h7 h8 h9 h10 h11 h12 h13 h14 h15 h16 h17 h18 h19 h20 h21 h22 h23 h24 h25 h26 h27 h28 h29 513 0 rfl (Nat.zero_le _) _ _ _ _ _ _ ls hI0 hC (lv_sub hl [4, 3, 2, 1, 0] rfl)
