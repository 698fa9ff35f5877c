def f_X1_init (K : Nat → Nat) (z : Nat) (c : zS) (th : Nat) : Option Unit :=
  some ()
set_option maxRecDepth 100000 in
set_option maxHeartbeats 4000000 in
theorem c_X1_init {l : Launch} {D : va_G} {cy : Nat → ClassId} {base : Nat} {st : Nat → Nat} {K : Nat → Nat} {L : List Nat} {c r : zS} {o : Int64} {z : Nat} (th : Nat)  (hk_th : K th = 1) (hf : f_X1_init K z c th = some ()) : Met l yX1_init wsX1_init ({ frames := 1, cells := 0, slots := 0, locals := 24 }) (va_Pc [.ref th] (zGW zts0 zns0 D cy base st K L (c, r, o))) (va_Qv (fun (_ : Unit) => True) (fun _ => zB D cy base K L (c, r, o)) (zA base)) 0 0 (zA base) := by
  refine Met.ofW (cc := cX1_init) (maxL := 1) (ret := none) (by decide) rfl ?_
  intro p e s m args below meth cd s₁ B hml hv
  obtain ⟨rfl, hG⟩ := hv
  have hx := B.exec
  have hb := B.bytes
  have hr := B.returns
  have hts := atoms_spec (ws := wsX1_init) B.pre
  have hown : s.vm.findClass RX1 = some m.cls := findClass_of_methodNamed B.named
  have hlocks := B.notSynchronized
  have hC := hG.enter
  have hK := hG.2.2.2.1
  have hin2 : meth.name = "<init>" := (name_of_methodNamed B.named B.method).1
  have w0 := hts (.methodLink RX1 3 objectInit) (by decide +kernel)
  have w1 := hts (.instanceMethod objectInit) (by decide +kernel)
  have w2 := hts (.code objectInit ⟨#[0xb1]⟩ 1 none) (by decide +kernel)
  have hl := lv_entry ([.ref th]) (n := 1) (Nat.le_of_ble_eq_true rfl)
  rw [lg_entry_eq]
  generalize (lg_sl ([.ref th]) ++ List.replicate (1 - (lg_sl ([.ref th])).length) Slot.unset).toArray = ls at hl ⊢
  have hl : lv_has ls 1 [(0, .ref th)] := hl
  unfold f_X1_init at hf
  refine lv_aload_n hx hb dX1_init_0 rfl (lv_at hl 0 rfl) ?_
  refine z_obj hx hb hown w0 w1 w2 (by rw [hml]; exact hl.1) dX1_init_1 (Nat.le_of_ble_eq_true rfl) (Nat.le_of_ble_eq_true rfl) ?_
  exact z_vret hx hb hr hlocks hC dX1_init_4
def f_X3_init (K : Nat → Nat) (z : Nat) (c : zS) (th : Nat) (p1 : Int32) (p2 : Int32) (p3 : Int32) (p4 : Int32) : Option zS :=
  zlet (zui c 60 th 0 p1) fun c1 => zlet (zui c1 61 th 0 p2) fun c2 => zlet (zui c2 62 th 0 p3) fun c3 => zz p4 <| zlet (zui c3 63 th 0 p4) fun c5 => some c5
set_option maxRecDepth 100000 in
set_option maxHeartbeats 4000000 in
theorem c_X3_init {l : Launch} {D : va_G} {cy : Nat → ClassId} {base : Nat} {st : Nat → Nat} {K : Nat → Nat} {L : List Nat} {c r : zS} {o : Int64} {z : Nat} (th : Nat) (p1 : Int32) (p2 : Int32) (p3 : Int32) (p4 : Int32) {cf : zS}  (hk_th : K th = 3) (hf : f_X3_init K z c th p1 p2 p3 p4 = some cf) : Met l yX3_init wsX3_init ({ frames := 1, cells := 0, slots := 0, locals := 24 }) (va_Pc [.ref th, .int p1, .int p2, .int p3, .int p4] (zGW zts0 zns0 D cy base st K L (c, r, o))) (va_Qv (fun (_ : Unit) => True) (fun _ => zB D cy base K L (cf, r, o)) (zA base)) 0 0 (zA base) := by
  refine Met.ofW (cc := cX3_init) (maxL := 5) (ret := none) (by decide) rfl ?_
  intro p e s m args below meth cd s₁ B hml hv
  obtain ⟨rfl, hG⟩ := hv
  have hx := B.exec
  have hb := B.bytes
  have hr := B.returns
  have hts := atoms_spec (ws := wsX3_init) B.pre
  have hown : s.vm.findClass RX3 = some m.cls := findClass_of_methodNamed B.named
  have hlocks := B.notSynchronized
  have hC := hG.enter
  have hK := hG.2.2.2.1
  have hin2 : meth.name = "<init>" := (name_of_methodNamed B.named B.method).1
  have hi3 : ∀ w ∈ wsX30, w ∈ wsX3_init := by decide +kernel
  have w0 := hts (.methodLink RX3 1 objectInit) (by decide +kernel)
  have w1 := hts (.instanceMethod objectInit) (by decide +kernel)
  have w2 := hts (.code objectInit ⟨#[0xb1]⟩ 1 none) (by decide +kernel)
  have w3 := hts (.fieldLink RX3 7 "MarketSquare$Trade" "number" "I") (by decide +kernel)
  have w4 := hts (.fieldLink RX3 13 "MarketSquare$Trade" "rate" "I") (by decide +kernel)
  have w5 := hts (.fieldLink RX3 16 "MarketSquare$Trade" "limit" "I") (by decide +kernel)
  have w6 := hts (.fieldLink RX3 19 "MarketSquare$Trade" "cloth" "Z") (by decide +kernel)
  have hl := lv_entry ([.ref th, .int p1, .int p2, .int p3, .int p4]) (n := 5) (Nat.le_of_ble_eq_true rfl)
  rw [lg_entry_eq]
  generalize (lg_sl ([.ref th, .int p1, .int p2, .int p3, .int p4]) ++ List.replicate (5 - (lg_sl ([.ref th, .int p1, .int p2, .int p3, .int p4])).length) Slot.unset).toArray = ls at hl ⊢
  have hl : lv_has ls 5 [(0, .ref th), (1, .int p1), (2, .int p2), (3, .int p3), (4, .int p4)] := hl
  unfold f_X3_init at hf
  refine lv_aload_n hx hb dX3_init_0 rfl (lv_at hl 0 rfl) ?_
  refine z_obj hx hb hown w0 w1 w2 (by rw [hml]; exact hl.1) dX3_init_1 (Nat.le_of_ble_eq_true rfl) (Nat.le_of_ble_eq_true rfl) ?_
  refine lv_aload_n hx hb dX3_init_4 rfl (lv_at hl 0 rfl) ?_
  refine lv_iload_n hx hb dX3_init_5 rfl (lv_at hl 1 rfl) ?_
  obtain ⟨c1, ec1, hf⟩ := zlet_inv hf
  refine zp_3_0 hx hb hts hi3 hown hK hC hk_th w3 hin2 rfl ec1 dX3_init_6 (fun H locs hC => ?_)
  refine lv_aload_n hx hb dX3_init_9 rfl (lv_at hl 0 rfl) ?_
  refine lv_iload_n hx hb dX3_init_10 rfl (lv_at hl 2 rfl) ?_
  obtain ⟨c2, ec2, hf⟩ := zlet_inv hf
  refine zp_3_1 hx hb hts hi3 hown hK hC hk_th w4 hin2 rfl ec2 dX3_init_11 (fun H locs hC => ?_)
  refine lv_aload_n hx hb dX3_init_14 rfl (lv_at hl 0 rfl) ?_
  refine lv_iload_n hx hb dX3_init_15 rfl (lv_at hl 3 rfl) ?_
  obtain ⟨c3, ec3, hf⟩ := zlet_inv hf
  refine zp_3_2 hx hb hts hi3 hown hK hC hk_th w5 hin2 rfl ec3 dX3_init_16 (fun H locs hC => ?_)
  refine lv_aload_n hx hb dX3_init_19 rfl (lv_at hl 0 rfl) ?_
  refine lv_iload hx hb dX3_init_20 (lv_at hl 4 rfl) ?_
  obtain ⟨hz4, hf⟩ := zz_inv hf
  obtain ⟨c5, ec5, hf⟩ := zlet_inv hf
  refine zp_3_3 hx hb hts hi3 hown hK hC hk_th w6 hz4 hin2 rfl ec5 dX3_init_22 (fun H locs hC => ?_)
  exact z_vretW hx hb hr hlocks hC hf dX3_init_25
def g_X5_init (K : Nat → Nat) (L : List Nat) (c : zS) (th : Nat) (K9 : Nat → Nat) (L9 : List Nat) (c9 : zS) : Prop :=
  ∃ q1 : Nat, 255 ≤ K q1 ∧ ∃ q2 : Nat, 255 ≤ (va_up K q1 9) q2 ∧ K9 = (va_up (va_up K q1 9) q2 10) ∧ L9 = ((L ++ [q1]) ++ [q2]) ∧ c9 = (zur (znw (zur (znw c q1) 100 th 0 (some q1)) q2) 101 th 0 (some q2))
theorem g_X5_init_old {K : Nat → Nat} {L : List Nat} {c : zS} {th : Nat} {K9 : Nat → Nat} {L9 : List Nat} {c9 : zS} (h : g_X5_init K L c th K9 L9 c9) : ∀ a, K a < 255 → K9 a = K a := by
  obtain ⟨q1, hq_q1, q2, hq_q2, rfl, rfl, rfl⟩ := h
  intro a ha
  have h0 : K a < 255 := ha
  have e0 : K a = K a := rfl
  have e1 := zup_old (k := 9) hq_q1 e0 ha
  have e2 := zup_old (k := 10) hq_q2 e1 ha
  exact e2
set_option maxRecDepth 100000 in
set_option maxHeartbeats 4000000 in
theorem c_X5_init {l : Launch} {D : va_G} {cy : Nat → ClassId} {base : Nat} {st : Nat → Nat} {K : Nat → Nat} {L : List Nat} {c r : zS} {o : Int64} (th : Nat) (hk_th : K th = 5) : Met l yX5_init wsX5_init ({ frames := 1, cells := 2, slots := 24, locals := 24 }) (va_Pc [.ref th] (zGW zts0 zns0 D cy base st K L (c, r, o))) (va_Qv (fun (u : (Nat → Nat) × List Nat × zS) => g_X5_init K L c th u.1 u.2.1 u.2.2) (fun u => zB D cy base u.1 u.2.1 (u.2.2, r, o)) (zA base)) 2 24 (zA base) := by
  refine Met.ofW (cc := cX5_init) (maxL := 1) (ret := none) (by decide) rfl ?_
  intro p e s m args below meth cd s₁ B hml hv
  obtain ⟨rfl, hG⟩ := hv
  have hx := B.exec
  have hb := B.bytes
  have hr := B.returns
  have hts := atoms_spec (ws := wsX5_init) B.pre
  have hown : s.vm.findClass RX5 = some m.cls := findClass_of_methodNamed B.named
  have hlocks := B.notSynchronized
  have hin2 : meth.name = "<init>" := (name_of_methodNamed B.named B.method).1
  have hC := hG.enter
  have hK := hG.2.2.2.1
  have hi5 : ∀ w ∈ wsX50, w ∈ wsX5_init := by decide +kernel
  have w0 := hts (.methodLink RX5 3 objectInit) (by decide +kernel)
  have w1 := hts (.instanceMethod objectInit) (by decide +kernel)
  have w2 := hts (.code objectInit ⟨#[0xb1]⟩ 1 none) (by decide +kernel)
  have w3 := hts (.arrayClass .int) (by decide +kernel)
  have w4 := hts (.fieldLink RX5 9 "MarketSquare$Wish" "rows" "[I") (by decide +kernel)
  have w5 := hts (.fieldLink RX5 15 "MarketSquare$Wish" "places" "[I") (by decide +kernel)
  have hl := lv_entry ([.ref th]) (n := 1) (Nat.le_of_ble_eq_true rfl)
  rw [lg_entry_eq]
  generalize (lg_sl ([.ref th]) ++ List.replicate (1 - (lg_sl ([.ref th])).length) Slot.unset).toArray = ls at hl ⊢
  have hl : lv_has ls 1 [(0, .ref th)] := hl
  refine lv_aload_n hx hb dX5_init_0 rfl (lv_at hl 0 rfl) ?_
  refine z_obj hx hb hown w0 w1 w2 (by rw [hml]; exact hl.1) dX5_init_1 (Nat.le_of_ble_eq_true rfl) (Nat.le_of_ble_eq_true rfl) ?_
  refine lv_aload_n hx hb dX5_init_4 rfl (lv_at hl 0 rfl) ?_
  refine lv_bipush (v := 12) hx hb dX5_init_5 (by decide) ?_
  refine z_newai (Zn := fun q => (znw c q, r, o)) (lab := 9) (N' := 12) hx hb w3 hK hG.1 hC (by decide) (by decide) (by decide) (Nat.le_of_ble_eq_true rfl) (Nat.le_of_ble_eq_true rfl) (fun q => by rw [zc_9]; rw [zi_znq]) (fun q => zOff.nw) dX5_init_7 (fun q1 H hq_q1 hC => ?_)
  have n_q1 : th ≠ q1 := fun e => by rw [e] at hk_th; omega
  have hk_th : (va_up K q1 9) th = 5 := zup_old hq_q1 hk_th (by decide)
  have hk_q1 : (va_up K q1 9) q1 = 9 := va_up_self _ _ _
  refine zp_5_0 (x := some q1) (c1 := (zur (znw c q1) 100 th 0 (some q1))) hx hb hts hi5 hown hK hC hk_th w4 hin2 rfl rfl dX5_init_9 (fun H locs hC => ?_)
  refine lv_aload_n hx hb dX5_init_12 rfl (lv_at hl 0 rfl) ?_
  refine lv_bipush (v := 12) hx hb dX5_init_13 (by decide) ?_
  refine z_newai (Zn := fun q => (znw (zur (znw c q1) 100 th 0 (some q1)) q, r, o)) (lab := 10) (N' := 12) hx hb w3 hK hG.1 hC (by decide) (by decide) (by decide) (Nat.le_of_ble_eq_true rfl) (Nat.le_of_ble_eq_true rfl) (fun q => by rw [zc_10]; rw [zi_znq]) (fun q => zOff.nw) dX5_init_15 (fun q2 H hq_q2 hC => ?_)
  have n_q2 : th ≠ q2 := fun e => by rw [e] at hk_th; omega
  have hk_th : (va_up (va_up K q1 9) q2 10) th = 5 := zup_old hq_q2 hk_th (by decide)
  have hk_q2 : (va_up (va_up K q1 9) q2 10) q2 = 10 := va_up_self _ _ _
  refine zp_5_1 (x := some q2) (c1 := (zur (znw (zur (znw c q1) 100 th 0 (some q1)) q2) 101 th 0 (some q2))) hx hb hts hi5 hown hK hC hk_th w5 hin2 rfl rfl dX5_init_17 (fun H locs hC => ?_)
  exact z_vretA (P := fun K1 L1 c1 => g_X5_init K L c th K1 L1 c1) hx hb hr hlocks hC ⟨q1, hq_q1, q2, hq_q2, rfl, rfl, rfl⟩ dX5_init_20
def g_X2_init (K : Nat → Nat) (L : List Nat) (c : zS) (th : Nat) (K9 : Nat → Nat) (L9 : List Nat) (c9 : zS) : Prop :=
  ∃ q1 : Nat, 255 ≤ K q1 ∧ K9 = (va_up K q1 1) ∧ L9 = (L ++ [q1]) ∧ c9 = (zur (znw c q1) 40 th 0 (some q1))
theorem g_X2_init_old {K : Nat → Nat} {L : List Nat} {c : zS} {th : Nat} {K9 : Nat → Nat} {L9 : List Nat} {c9 : zS} (h : g_X2_init K L c th K9 L9 c9) : ∀ a, K a < 255 → K9 a = K a := by
  obtain ⟨q1, hq_q1, rfl, rfl, rfl⟩ := h
  intro a ha
  have h0 : K a < 255 := ha
  have e0 : K a = K a := rfl
  have e1 := zup_old (k := 1) hq_q1 e0 ha
  exact e1
set_option maxRecDepth 100000 in
set_option maxHeartbeats 4000000 in
theorem c_X2_init {l : Launch} {D : va_G} {cy : Nat → ClassId} {base : Nat} {st : Nat → Nat} {K : Nat → Nat} {L : List Nat} {c r : zS} {o : Int64} (th : Nat) (hk_th : K th = 2) : Met l yX2_init wsX2_init ({ frames := 2, cells := 1, slots := 3, locals := 44 }) (va_Pc [.ref th] (zGW zts0 zns0 D cy base st K L (c, r, o))) (va_Qv (fun (u : (Nat → Nat) × List Nat × zS) => g_X2_init K L c th u.1 u.2.1 u.2.2) (fun u => zB D cy base u.1 u.2.1 (u.2.2, r, o)) (zA base)) 1 3 (zA base) := by
  refine Met.ofW (cc := cX2_init) (maxL := 1) (ret := none) (by decide) rfl ?_
  intro p e s m args below meth cd s₁ B hml hv
  obtain ⟨rfl, hG⟩ := hv
  have hx := B.exec
  have hb := B.bytes
  have hr := B.returns
  have hts := atoms_spec (ws := wsX2_init) B.pre
  have hown : s.vm.findClass RX2 = some m.cls := findClass_of_methodNamed B.named
  have hlocks := B.notSynchronized
  have hin2 : meth.name = "<init>" := (name_of_methodNamed B.named B.method).1
  have hC := hG.enter
  have hK := hG.2.2.2.1
  have hi1 : ∀ w ∈ wsX10, w ∈ wsX2_init := by decide +kernel
  have hi2 : ∀ w ∈ wsX20, w ∈ wsX2_init := by decide +kernel
  have w0 := hts (.methodLink RX2 1 objectInit) (by decide +kernel)
  have w1 := hts (.instanceMethod objectInit) (by decide +kernel)
  have w2 := hts (.code objectInit ⟨#[0xb1]⟩ 1 none) (by decide +kernel)
  have w3 := hts (.classLink RX2 7 RX1) (by decide +kernel)
  have w4 := hts (.instantiable RX1 3) (by decide +kernel)
  have w5 := hts (.initialized RX1) (by decide +kernel)
  have w6 := hts (.instanceMethod yX1_init) (by decide +kernel)
  have w7 := hts (.fieldLink RX2 10 "MarketSquare$Today" "stall" "LMarketSquare$Spot;") (by decide +kernel)
  have hl := lv_entry ([.ref th]) (n := 1) (Nat.le_of_ble_eq_true rfl)
  rw [lg_entry_eq]
  generalize (lg_sl ([.ref th]) ++ List.replicate (1 - (lg_sl ([.ref th])).length) Slot.unset).toArray = ls at hl ⊢
  have hl : lv_has ls 1 [(0, .ref th)] := hl
  refine lv_aload_n hx hb dX2_init_0 rfl (lv_at hl 0 rfl) ?_
  refine z_obj hx hb hown w0 w1 w2 (by rw [hml]; exact hl.1) dX2_init_1 (Nat.le_of_ble_eq_true rfl) (Nat.le_of_ble_eq_true rfl) ?_
  refine lv_aload_n hx hb dX2_init_4 rfl (lv_at hl 0 rfl) ?_
  refine z_new (Zn := fun q => (znw c q, r, o)) (ci := 1) (C := RX1) (T := TX1) (N := 3) (fs := [.int 0, .int 0, .int 0]) hx hb hts hi1 tyX1 tyX1_ok hown w3 w4 w5 hK hG.1 hC rfl (fun j hj => by rcases (show j = 0 ∨ j = 1 ∨ j = 2 by omega) with rfl | rfl | rfl <;> rfl) (fun q => by rw [zc_1]; simp [zi_znw, zl_znw, zr_znw, va_rf]) (fun q => zOff.nw) (Nat.le_of_ble_eq_true rfl) (Nat.le_of_ble_eq_true rfl) dX2_init_5 (fun q1 H hq_q1 hC => ?_)
  have n_q1 : th ≠ q1 := fun e => by rw [e] at hk_th; omega
  have hk_th : (va_up K q1 1) th = 2 := zup_old hq_q1 hk_th (by decide)
  have hk_q1 : (va_up K q1 1) q1 = 1 := va_up_self _ _ _
  refine lv_dup hx hb dX2_init_8 rfl ?_
  refine z_cv (z_rIN (As := []) (rest := [.ref q1, .ref th]) ⟨hx, hb, hml, hown, hts⟩ (c_X1_init (l := l) (D := D) (cy := cy) (base := base) (st := st) (K := (va_up K q1 1)) (L := (L ++ [q1])) (c := (znw c q1)) (r := r) (o := o) (z := 0) q1 hk_q1 rfl) ⟨va_cnB 0 hts gX2_init_X1_init_n9 rfl rfl rfl (hG.2.2.2.2.2.2.2.2.1 _ (List.mem_of_getElem? (i := 2) rfl)) w5 (by decide +kernel) ⟨(Nat.le_of_ble_eq_true rfl), (Nat.le_of_ble_eq_true rfl)⟩, rfl, w6⟩ hG hC rfl hl.1 rfl (lv_room (Nat.le_of_ble_eq_true rfl)) dX2_init_9 ⟨(Nat.le_of_ble_eq_true rfl), (Nat.le_of_ble_eq_true rfl)⟩) hC (fun H locs hC => ?_)
  refine zp_2_0 (x := some q1) (c1 := (zur (znw c q1) 40 th 0 (some q1))) hx hb hts hi2 hown hK hC hk_th w7 hin2 rfl rfl dX2_init_12 (fun H locs hC => ?_)
  exact z_vretA (P := fun K1 L1 c1 => g_X2_init K L c th K1 L1 c1) hx hb hr hlocks hC ⟨q1, hq_q1, rfl, rfl, rfl⟩ dX2_init_15
def g_X0_init (K : Nat → Nat) (L : List Nat) (c : zS) (th : Nat) (K9 : Nat → Nat) (L9 : List Nat) (c9 : zS) : Prop :=
  ∃ q1 : Nat, 255 ≤ K q1 ∧ ∃ q2 : Nat, 255 ≤ (va_up K q1 8) q2 ∧ K9 = (va_up (va_up K q1 8) q2 16) ∧ L9 = ((L ++ [q1]) ++ [q2]) ∧ c9 = (zur (znw (zur (znw c q1) 0 th 0 (some q1)) q2) 1 th 0 (some q2))
theorem g_X0_init_old {K : Nat → Nat} {L : List Nat} {c : zS} {th : Nat} {K9 : Nat → Nat} {L9 : List Nat} {c9 : zS} (h : g_X0_init K L c th K9 L9 c9) : ∀ a, K a < 255 → K9 a = K a := by
  obtain ⟨q1, hq_q1, q2, hq_q2, rfl, rfl, rfl⟩ := h
  intro a ha
  have h0 : K a < 255 := ha
  have e0 : K a = K a := rfl
  have e1 := zup_old (k := 8) hq_q1 e0 ha
  have e2 := zup_old (k := 16) hq_q2 e1 ha
  exact e2
set_option maxRecDepth 100000 in
set_option maxHeartbeats 4000000 in
theorem c_X0_init {l : Launch} {D : va_G} {cy : Nat → ClassId} {base : Nat} {st : Nat → Nat} {K : Nat → Nat} {L : List Nat} {c r : zS} {o : Int64} (th : Nat) (hk_th : K th = 0) : Met l yX0_init wsX0_init ({ frames := 1, cells := 2, slots := 400, locals := 24 }) (va_Pc [.ref th] (zGW zts0 zns0 D cy base st K L (c, r, o))) (va_Qv (fun (u : (Nat → Nat) × List Nat × zS) => g_X0_init K L c th u.1 u.2.1 u.2.2) (fun u => zB D cy base u.1 u.2.1 (u.2.2, r, o)) (zA base)) 2 400 (zA base) := by
  refine Met.ofW (cc := cX0_init) (maxL := 1) (ret := none) (by decide) rfl ?_
  intro p e s m args below meth cd s₁ B hml hv
  obtain ⟨rfl, hG⟩ := hv
  have hx := B.exec
  have hb := B.bytes
  have hr := B.returns
  have hts := atoms_spec (ws := wsX0_init) B.pre
  have hown : s.vm.findClass RX0 = some m.cls := findClass_of_methodNamed B.named
  have hlocks := B.notSynchronized
  have hin2 : meth.name = "<init>" := (name_of_methodNamed B.named B.method).1
  have hC := hG.enter
  have hK := hG.2.2.2.1
  have hi0 : ∀ w ∈ wsX00, w ∈ wsX0_init := by decide +kernel
  have w0 := hts (.methodLink RX0 3 objectInit) (by decide +kernel)
  have w1 := hts (.instanceMethod objectInit) (by decide +kernel)
  have w2 := hts (.code objectInit ⟨#[0xb1]⟩ 1 none) (by decide +kernel)
  have w3 := hts (.arrayClass .int) (by decide +kernel)
  have w4 := hts (.fieldLink RX0 9 "MarketSquare$Row" "marks" "[I") (by decide +kernel)
  have w5 := hts (.classLink RX0 15 RX4) (by decide +kernel)
  have w6 := hts (.fieldLink RX0 17 "MarketSquare$Row" "holders" "[LMarketSquare$Trader;") (by decide +kernel)
  have hl := lv_entry ([.ref th]) (n := 1) (Nat.le_of_ble_eq_true rfl)
  rw [lg_entry_eq]
  generalize (lg_sl ([.ref th]) ++ List.replicate (1 - (lg_sl ([.ref th])).length) Slot.unset).toArray = ls at hl ⊢
  have hl : lv_has ls 1 [(0, .ref th)] := hl
  refine lv_aload_n hx hb dX0_init_0 rfl (lv_at hl 0 rfl) ?_
  refine z_obj hx hb hown w0 w1 w2 (by rw [hml]; exact hl.1) dX0_init_1 (Nat.le_of_ble_eq_true rfl) (Nat.le_of_ble_eq_true rfl) ?_
  refine lv_aload_n hx hb dX0_init_4 rfl (lv_at hl 0 rfl) ?_
  refine lv_sipush (v := 200) hx hb dX0_init_5 (by decide) ?_
  refine z_newai (Zn := fun q => (znw c q, r, o)) (lab := 8) (N' := 200) hx hb w3 hK hG.1 hC (by decide) (by decide) (by decide) (Nat.le_of_ble_eq_true rfl) (Nat.le_of_ble_eq_true rfl) (fun q => by rw [zc_8]; rw [zi_znq]) (fun q => zOff.nw) dX0_init_8 (fun q1 H hq_q1 hC => ?_)
  have n_q1 : th ≠ q1 := fun e => by rw [e] at hk_th; omega
  have hk_th : (va_up K q1 8) th = 0 := zup_old hq_q1 hk_th (by decide)
  have hk_q1 : (va_up K q1 8) q1 = 8 := va_up_self _ _ _
  refine zp_0_0 (x := some q1) (c1 := (zur (znw c q1) 0 th 0 (some q1))) hx hb hts hi0 hown hK hC hk_th w4 hin2 rfl rfl dX0_init_10 (fun H locs hC => ?_)
  refine lv_aload_n hx hb dX0_init_13 rfl (lv_at hl 0 rfl) ?_
  refine lv_sipush (v := 200) hx hb dX0_init_14 (by decide) ?_
  refine z_newq (Zn := fun q => (znw (zur (znw c q1) 0 th 0 (some q1)) q, r, o)) (lab := 16) (N' := 200) (ti := 6) (C := RX4) hx hb hown w5 (hG.2.2.2.2.2.2.2.2.2.2.2.1 _ (by decide +kernel)) hK rfl hG.1 hC (by decide) (by decide) (by decide) (Nat.le_of_ble_eq_true rfl) (Nat.le_of_ble_eq_true rfl) (fun q => by rw [zc_16]; rw [zr_znq]) (fun q => zOff.nw) dX0_init_17 (fun q2 H hq_q2 hC => ?_)
  have n_q2 : th ≠ q2 := fun e => by rw [e] at hk_th; omega
  have hk_th : (va_up (va_up K q1 8) q2 16) th = 0 := zup_old hq_q2 hk_th (by decide)
  have hk_q2 : (va_up (va_up K q1 8) q2 16) q2 = 16 := va_up_self _ _ _
  refine zp_0_1 (x := some q2) (c1 := (zur (znw (zur (znw c q1) 0 th 0 (some q1)) q2) 1 th 0 (some q2))) hx hb hts hi0 hown hK hC hk_th w6 hin2 rfl rfl dX0_init_20 (fun H locs hC => ?_)
  exact z_vretA (P := fun K1 L1 c1 => g_X0_init K L c th K1 L1 c1) hx hb hr hlocks hC ⟨q1, hq_q1, q2, hq_q2, rfl, rfl, rfl⟩ dX0_init_23
def g_X4_init (K : Nat → Nat) (L : List Nat) (c : zS) (th : Nat) (p1 : Int32) (p2 : Int32) (t3 : Nat) (p4 : Int32) (p5 : Int32) (K9 : Nat → Nat) (L9 : List Nat) (c9 : zS) : Prop :=
  ∃ q1 : Nat, 255 ≤ K q1 ∧ ∃ q2 : Nat, 255 ≤ (va_up K q1 1) q2 ∧ ∃ (K3 : Nat → Nat) (L3 : List Nat) (c3 : zS), g_X5_init (va_up (va_up K q1 1) q2 5) ((L ++ [q1]) ++ [q2]) (znw (zur (znw c q1) 83 th 0 (some q1)) q2) q2 K3 L3 c3 ∧ ∃ q4 : Nat, 255 ≤ K3 q4 ∧ ∃ (K5 : Nat → Nat) (L5 : List Nat) (c5 : zS), g_X2_init (va_up K3 q4 2) (L3 ++ [q4]) (znw (zur c3 84 th 0 (some q2)) q4) q4 K5 L5 c5 ∧ K9 = K5 ∧ L9 = L5 ∧ c9 = (zui (zui (zur (zui (zui (zui (zui (zur c5 85 th 0 (some q4)) 88 th 0 4095) 92 th 0 (-1)) 80 th 0 p1) 86 th 0 p2) 81 th 0 (some t3)) 82 th 0 p4) 87 th 0 p5)
theorem g_X4_init_old {K : Nat → Nat} {L : List Nat} {c : zS} {th : Nat} {p1 : Int32} {p2 : Int32} {t3 : Nat} {p4 : Int32} {p5 : Int32} {K9 : Nat → Nat} {L9 : List Nat} {c9 : zS} (h : g_X4_init K L c th p1 p2 t3 p4 p5 K9 L9 c9) : ∀ a, K a < 255 → K9 a = K a := by
  obtain ⟨q1, hq_q1, q2, hq_q2, K3, L3, c3, hP3, q4, hq_q4, K5, L5, c5, hP5, rfl, rfl, rfl⟩ := h
  intro a ha
  have h0 : K a < 255 := ha
  have e0 : K a = K a := rfl
  have e1 := zup_old (k := 1) hq_q1 e0 ha
  have e2 := zup_old (k := 5) hq_q2 e1 ha
  have e3 := (g_X5_init_old hP3 a (by rw [e2]; exact ha)).trans e2
  have e4 := zup_old (k := 2) hq_q4 e3 ha
  have e5 := (g_X2_init_old hP5 a (by rw [e4]; exact ha)).trans e4
  exact e5
set_option maxRecDepth 100000 in
set_option maxHeartbeats 4000000 in
theorem c_X4_init {l : Launch} {D : va_G} {cy : Nat → ClassId} {base : Nat} {st : Nat → Nat} {K : Nat → Nat} {L : List Nat} {c r : zS} {o : Int64} (th : Nat) (p1 : Int32) (p2 : Int32) (t3 : Nat) (p4 : Int32) (p5 : Int32) (hk_th : K th = 4) (hk_t3 : K t3 = 3) : Met l yX4_init wsX4_init ({ frames := 3, cells := 6, slots := 42, locals := 64 }) (va_Pc [.ref th, .int p1, .int p2, .ref t3, .int p4, .int p5] (zGW zts0 zns0 D cy base st K L (c, r, o))) (va_Qv (fun (u : (Nat → Nat) × List Nat × zS) => g_X4_init K L c th p1 p2 t3 p4 p5 u.1 u.2.1 u.2.2) (fun u => zB D cy base u.1 u.2.1 (u.2.2, r, o)) (zA base)) 6 42 (zA base) := by
  refine Met.ofW (cc := cX4_init) (maxL := 6) (ret := none) (by decide) rfl ?_
  intro p e s m args below meth cd s₁ B hml hv
  obtain ⟨rfl, hG⟩ := hv
  have hx := B.exec
  have hb := B.bytes
  have hr := B.returns
  have hts := atoms_spec (ws := wsX4_init) B.pre
  have hown : s.vm.findClass RX4 = some m.cls := findClass_of_methodNamed B.named
  have hlocks := B.notSynchronized
  have hin2 : meth.name = "<init>" := (name_of_methodNamed B.named B.method).1
  have hC := hG.enter
  have hK := hG.2.2.2.1
  have hi1 : ∀ w ∈ wsX10, w ∈ wsX4_init := by decide +kernel
  have hi2 : ∀ w ∈ wsX20, w ∈ wsX4_init := by decide +kernel
  have hi4 : ∀ w ∈ wsX40, w ∈ wsX4_init := by decide +kernel
  have hi5 : ∀ w ∈ wsX50, w ∈ wsX4_init := by decide +kernel
  have w0 := hts (.methodLink RX4 3 objectInit) (by decide +kernel)
  have w1 := hts (.instanceMethod objectInit) (by decide +kernel)
  have w2 := hts (.code objectInit ⟨#[0xb1]⟩ 1 none) (by decide +kernel)
  have w3 := hts (.classLink RX4 9 RX1) (by decide +kernel)
  have w4 := hts (.instantiable RX1 3) (by decide +kernel)
  have w5 := hts (.initialized RX1) (by decide +kernel)
  have w6 := hts (.instanceMethod yX1_init) (by decide +kernel)
  have w7 := hts (.fieldLink RX4 12 "MarketSquare$Trader" "pitch" "LMarketSquare$Spot;") (by decide +kernel)
  have w8 := hts (.classLink RX4 18 RX5) (by decide +kernel)
  have w9 := hts (.instantiable RX5 4) (by decide +kernel)
  have w10 := hts (.initialized RX5) (by decide +kernel)
  have w11 := hts (.instanceMethod yX5_init) (by decide +kernel)
  have w12 := hts (.fieldLink RX4 21 "MarketSquare$Trader" "wish" "LMarketSquare$Wish;") (by decide +kernel)
  have w13 := hts (.classLink RX4 25 RX2) (by decide +kernel)
  have w14 := hts (.instantiable RX2 8) (by decide +kernel)
  have w15 := hts (.initialized RX2) (by decide +kernel)
  have w16 := hts (.instanceMethod yX2_init) (by decide +kernel)
  have w17 := hts (.fieldLink RX4 28 "MarketSquare$Trader" "today" "LMarketSquare$Today;") (by decide +kernel)
  have w18 := hts (.fieldLink RX4 32 "MarketSquare$Trader" "months" "I") (by decide +kernel)
  have w19 := hts (.fieldLink RX4 36 "MarketSquare$Trader" "last" "I") (by decide +kernel)
  have w20 := hts (.fieldLink RX4 39 "MarketSquare$Trader" "number" "I") (by decide +kernel)
  have w21 := hts (.fieldLink RX4 42 "MarketSquare$Trader" "kind" "I") (by decide +kernel)
  have w22 := hts (.fieldLink RX4 45 "MarketSquare$Trader" "trade" "LMarketSquare$Trade;") (by decide +kernel)
  have w23 := hts (.fieldLink RX4 49 "MarketSquare$Trader" "front" "I") (by decide +kernel)
  have w24 := hts (.fieldLink RX4 52 "MarketSquare$Trader" "rank" "I") (by decide +kernel)
  have hl := lv_entry ([.ref th, .int p1, .int p2, .ref t3, .int p4, .int p5]) (n := 6) (Nat.le_of_ble_eq_true rfl)
  rw [lg_entry_eq]
  generalize (lg_sl ([.ref th, .int p1, .int p2, .ref t3, .int p4, .int p5]) ++ List.replicate (6 - (lg_sl ([.ref th, .int p1, .int p2, .ref t3, .int p4, .int p5])).length) Slot.unset).toArray = ls at hl ⊢
  have hl : lv_has ls 6 [(0, .ref th), (1, .int p1), (2, .int p2), (3, .ref t3), (4, .int p4), (5, .int p5)] := hl
  refine lv_aload_n hx hb dX4_init_0 rfl (lv_at hl 0 rfl) ?_
  refine z_obj hx hb hown w0 w1 w2 (by rw [hml]; exact hl.1) dX4_init_1 (Nat.le_of_ble_eq_true rfl) (Nat.le_of_ble_eq_true rfl) ?_
  refine lv_aload_n hx hb dX4_init_4 rfl (lv_at hl 0 rfl) ?_
  refine z_new (Zn := fun q => (znw c q, r, o)) (ci := 1) (C := RX1) (T := TX1) (N := 3) (fs := [.int 0, .int 0, .int 0]) hx hb hts hi1 tyX1 tyX1_ok hown w3 w4 w5 hK hG.1 hC rfl (fun j hj => by rcases (show j = 0 ∨ j = 1 ∨ j = 2 by omega) with rfl | rfl | rfl <;> rfl) (fun q => by rw [zc_1]; simp [zi_znw, zl_znw, zr_znw, va_rf]) (fun q => zOff.nw) (Nat.le_of_ble_eq_true rfl) (Nat.le_of_ble_eq_true rfl) dX4_init_5 (fun q1 H hq_q1 hC => ?_)
  have n_q1 : th ≠ q1 := fun e => by rw [e] at hk_th; omega
  have hk_th : (va_up K q1 1) th = 4 := zup_old hq_q1 hk_th (by decide)
  have hk_t3 : (va_up K q1 1) t3 = 3 := zup_old hq_q1 hk_t3 (by decide)
  have hk_q1 : (va_up K q1 1) q1 = 1 := va_up_self _ _ _
  refine lv_dup hx hb dX4_init_8 rfl ?_
  refine z_cv (z_rIN (As := []) (rest := [.ref q1, .ref th]) ⟨hx, hb, hml, hown, hts⟩ (c_X1_init (l := l) (D := D) (cy := cy) (base := base) (st := st) (K := (va_up K q1 1)) (L := (L ++ [q1])) (c := (znw c q1)) (r := r) (o := o) (z := 0) q1 hk_q1 rfl) ⟨va_cnB 0 hts gX4_init_X1_init_n11 rfl rfl rfl (hG.2.2.2.2.2.2.2.2.1 _ (List.mem_of_getElem? (i := 3) rfl)) w5 (by decide +kernel) ⟨(Nat.le_of_ble_eq_true rfl), (Nat.le_of_ble_eq_true rfl)⟩, rfl, w6⟩ hG hC rfl hl.1 rfl (lv_room (Nat.le_of_ble_eq_true rfl)) dX4_init_9 ⟨(Nat.le_of_ble_eq_true rfl), (Nat.le_of_ble_eq_true rfl)⟩) hC (fun H locs hC => ?_)
  refine zp_4_3 (x := some q1) (c1 := (zur (znw c q1) 83 th 0 (some q1))) hx hb hts hi4 hown hK hC hk_th w7 hin2 rfl rfl dX4_init_12 (fun H locs hC => ?_)
  refine lv_aload_n hx hb dX4_init_15 rfl (lv_at hl 0 rfl) ?_
  refine z_new (Zn := fun q => (znw (zur (znw c q1) 83 th 0 (some q1)) q, r, o)) (ci := 5) (C := RX5) (T := TX5) (N := 4) (fs := [.null, .null, .int 0, .int 0]) hx hb hts hi5 tyX5 tyX5_ok hown w8 w9 w10 hK hG.1 hC rfl (fun j hj => by rcases (show j = 0 ∨ j = 1 ∨ j = 2 ∨ j = 3 by omega) with rfl | rfl | rfl | rfl <;> rfl) (fun q => by rw [zc_5]; simp [zi_znw, zl_znw, zr_znw, va_rf]) (fun q => zOff.nw) (Nat.le_of_ble_eq_true rfl) (Nat.le_of_ble_eq_true rfl) dX4_init_16 (fun q2 H hq_q2 hC => ?_)
  have n_q2 : th ≠ q2 := fun e => by rw [e] at hk_th; omega
  have hk_th : (va_up (va_up K q1 1) q2 5) th = 4 := zup_old hq_q2 hk_th (by decide)
  have hk_t3 : (va_up (va_up K q1 1) q2 5) t3 = 3 := zup_old hq_q2 hk_t3 (by decide)
  have hk_q2 : (va_up (va_up K q1 1) q2 5) q2 = 5 := va_up_self _ _ _
  refine lv_dup hx hb dX4_init_19 rfl ?_
  refine z_cvA (z_rIN (As := []) (rest := [.ref q2, .ref th]) ⟨hx, hb, hml, hown, hts⟩ (c_X5_init (l := l) (D := D) (cy := cy) (base := base) (st := st) (K := (va_up (va_up K q1 1) q2 5)) (L := ((L ++ [q1]) ++ [q2])) (c := (znw (zur (znw c q1) 83 th 0 (some q1)) q2)) (r := r) (o := o) q2 hk_q2) ⟨va_cnB 0 hts gX4_init_X5_init_n20 rfl rfl rfl (hG.2.2.2.2.2.2.2.2.1 _ (List.mem_of_getElem? (i := 4) rfl)) w10 (by decide +kernel) ⟨(Nat.le_of_ble_eq_true rfl), (Nat.le_of_ble_eq_true rfl)⟩, rfl, w11⟩ hG hC rfl hl.1 rfl (lv_room (Nat.le_of_ble_eq_true rfl)) dX4_init_20 ⟨(Nat.le_of_ble_eq_true rfl), (Nat.le_of_ble_eq_true rfl)⟩) hC (fun K3 L3 c3 H locs hP3 hC => ?_)
  have hk_th : K3 th = 4 := (g_X5_init_old hP3 _ (by rw [hk_th]; decide)).trans hk_th
  have hk_t3 : K3 t3 = 3 := (g_X5_init_old hP3 _ (by rw [hk_t3]; decide)).trans hk_t3
  have hk_q2 : K3 q2 = 5 := (g_X5_init_old hP3 _ (by rw [hk_q2]; decide)).trans hk_q2
  refine zp_4_4 (x := some q2) (c1 := (zur c3 84 th 0 (some q2))) hx hb hts hi4 hown hK hC hk_th w12 hin2 rfl rfl dX4_init_23 (fun H locs hC => ?_)
  refine lv_aload_n hx hb dX4_init_26 rfl (lv_at hl 0 rfl) ?_
  refine z_new (Zn := fun q => (znw (zur c3 84 th 0 (some q2)) q, r, o)) (ci := 2) (C := RX2) (T := TX2) (N := 8) (fs := [.null, .int 0, .int 0, .int 0, .int 0, .int 0, .int 0, .int 0]) hx hb hts hi2 tyX2 tyX2_ok hown w13 w14 w15 hK hG.1 hC rfl (fun j hj => by rcases (show j = 0 ∨ j = 1 ∨ j = 2 ∨ j = 3 ∨ j = 4 ∨ j = 5 ∨ j = 6 ∨ j = 7 by omega) with rfl | rfl | rfl | rfl | rfl | rfl | rfl | rfl <;> rfl) (fun q => by rw [zc_2]; simp [zi_znw, zl_znw, zr_znw, va_rf]) (fun q => zOff.nw) (Nat.le_of_ble_eq_true rfl) (Nat.le_of_ble_eq_true rfl) dX4_init_27 (fun q4 H hq_q4 hC => ?_)
  have n_q4 : th ≠ q4 := fun e => by rw [e] at hk_th; omega
  have hk_th : (va_up K3 q4 2) th = 4 := zup_old hq_q4 hk_th (by decide)
  have hk_t3 : (va_up K3 q4 2) t3 = 3 := zup_old hq_q4 hk_t3 (by decide)
  have hk_q4 : (va_up K3 q4 2) q4 = 2 := va_up_self _ _ _
  refine lv_dup hx hb dX4_init_30 rfl ?_
  refine z_cvA (z_rIN (As := []) (rest := [.ref q4, .ref th]) ⟨hx, hb, hml, hown, hts⟩ (c_X2_init (l := l) (D := D) (cy := cy) (base := base) (st := st) (K := (va_up K3 q4 2)) (L := (L3 ++ [q4])) (c := (znw (zur c3 84 th 0 (some q2)) q4)) (r := r) (o := o) q4 hk_q4) ⟨va_cnB 0 hts gX4_init_X2_init_n27 rfl rfl rfl (hG.2.2.2.2.2.2.2.2.1 _ (List.mem_of_getElem? (i := 5) rfl)) w15 (by decide +kernel) ⟨(Nat.le_of_ble_eq_true rfl), (Nat.le_of_ble_eq_true rfl)⟩, rfl, w16⟩ hG hC rfl hl.1 rfl (lv_room (Nat.le_of_ble_eq_true rfl)) dX4_init_31 ⟨(Nat.le_of_ble_eq_true rfl), (Nat.le_of_ble_eq_true rfl)⟩) hC (fun K5 L5 c5 H locs hP5 hC => ?_)
  have hk_th : K5 th = 4 := (g_X2_init_old hP5 _ (by rw [hk_th]; decide)).trans hk_th
  have hk_t3 : K5 t3 = 3 := (g_X2_init_old hP5 _ (by rw [hk_t3]; decide)).trans hk_t3
  have hk_q4 : K5 q4 = 2 := (g_X2_init_old hP5 _ (by rw [hk_q4]; decide)).trans hk_q4
  refine zp_4_5 (x := some q4) (c1 := (zur c5 85 th 0 (some q4))) hx hb hts hi4 hown hK hC hk_th w17 hin2 rfl rfl dX4_init_34 (fun H locs hC => ?_)
  refine lv_aload_n hx hb dX4_init_37 rfl (lv_at hl 0 rfl) ?_
  refine lv_sipush (v := 4095) hx hb dX4_init_38 (by decide) ?_
  refine zp_4_8 (c1 := (zui (zur c5 85 th 0 (some q4)) 88 th 0 4095)) hx hb hts hi4 hown hK hC hk_th w18 rfl dX4_init_41 (fun H locs hC => ?_)
  refine lv_aload_n hx hb dX4_init_44 rfl (lv_at hl 0 rfl) ?_
  refine lv_iconst (v := (-1)) hx hb dX4_init_45 (by decide) ?_
  refine zp_4_12 (c1 := (zui (zui (zur c5 85 th 0 (some q4)) 88 th 0 4095) 92 th 0 (-1))) hx hb hts hi4 hown hK hC hk_th w19 rfl dX4_init_46 (fun H locs hC => ?_)
  refine lv_aload_n hx hb dX4_init_49 rfl (lv_at hl 0 rfl) ?_
  refine lv_iload_n hx hb dX4_init_50 rfl (lv_at hl 1 rfl) ?_
  refine zp_4_0 (c1 := (zui (zui (zui (zur c5 85 th 0 (some q4)) 88 th 0 4095) 92 th 0 (-1)) 80 th 0 p1)) hx hb hts hi4 hown hK hC hk_th w20 hin2 rfl rfl dX4_init_51 (fun H locs hC => ?_)
  refine lv_aload_n hx hb dX4_init_54 rfl (lv_at hl 0 rfl) ?_
  refine lv_iload_n hx hb dX4_init_55 rfl (lv_at hl 2 rfl) ?_
  refine zp_4_6 (c1 := (zui (zui (zui (zui (zur c5 85 th 0 (some q4)) 88 th 0 4095) 92 th 0 (-1)) 80 th 0 p1) 86 th 0 p2)) hx hb hts hi4 hown hK hC hk_th w21 rfl dX4_init_56 (fun H locs hC => ?_)
  refine lv_aload_n hx hb dX4_init_59 rfl (lv_at hl 0 rfl) ?_
  refine lv_aload_n hx hb dX4_init_60 rfl (lv_at hl 3 rfl) ?_
  refine zp_4_1 (x := some t3) (c1 := (zur (zui (zui (zui (zui (zur c5 85 th 0 (some q4)) 88 th 0 4095) 92 th 0 (-1)) 80 th 0 p1) 86 th 0 p2) 81 th 0 (some t3))) hx hb hts hi4 hown hK hC hk_th w22 hin2 rfl rfl dX4_init_61 (fun H locs hC => ?_)
  refine lv_aload_n hx hb dX4_init_64 rfl (lv_at hl 0 rfl) ?_
  refine lv_iload hx hb dX4_init_65 (lv_at hl 4 rfl) ?_
  refine zp_4_2 (c1 := (zui (zur (zui (zui (zui (zui (zur c5 85 th 0 (some q4)) 88 th 0 4095) 92 th 0 (-1)) 80 th 0 p1) 86 th 0 p2) 81 th 0 (some t3)) 82 th 0 p4)) hx hb hts hi4 hown hK hC hk_th w23 hin2 rfl rfl dX4_init_67 (fun H locs hC => ?_)
  refine lv_aload_n hx hb dX4_init_70 rfl (lv_at hl 0 rfl) ?_
  refine lv_iload hx hb dX4_init_71 (lv_at hl 5 rfl) ?_
  refine zp_4_7 (c1 := (zui (zui (zur (zui (zui (zui (zui (zur c5 85 th 0 (some q4)) 88 th 0 4095) 92 th 0 (-1)) 80 th 0 p1) 86 th 0 p2) 81 th 0 (some t3)) 82 th 0 p4) 87 th 0 p5)) hx hb hts hi4 hown hK hC hk_th w24 rfl dX4_init_73 (fun H locs hC => ?_)
  exact z_vretA (P := fun K1 L1 c1 => g_X4_init K L c th p1 p2 t3 p4 p5 K1 L1 c1) hx hb hr hlocks hC ⟨q1, hq_q1, q2, hq_q2, K3, L3, c3, hP3, q4, hq_q4, K5, L5, c5, hP5, rfl, rfl, rfl⟩ dX4_init_76
def g_X7_init (K : Nat → Nat) (L : List Nat) (r : zS) (th : Nat) (K9 : Nat → Nat) (L9 : List Nat) (c9 : zS) : Prop :=
  ∃ q1 : Nat, 255 ≤ K q1 ∧ ∃ q2 : Nat, 255 ≤ (va_up K q1 101) q2 ∧ ∃ q3 : Nat, 255 ≤ (va_up (va_up K q1 101) q2 102) q3 ∧ ∃ q4 : Nat, 255 ≤ (va_up (va_up (va_up K q1 101) q2 102) q3 103) q4 ∧ ∃ q5 : Nat, 255 ≤ (va_up (va_up (va_up (va_up K q1 101) q2 102) q3 103) q4 104) q5 ∧ ∃ q6 : Nat, 255 ≤ (va_up (va_up (va_up (va_up (va_up K q1 101) q2 102) q3 103) q4 104) q5 105) q6 ∧ ∃ q7 : Nat, 255 ≤ (va_up (va_up (va_up (va_up (va_up (va_up K q1 101) q2 102) q3 103) q4 104) q5 105) q6 106) q7 ∧ ∃ q8 : Nat, 255 ≤ (va_up (va_up (va_up (va_up (va_up (va_up (va_up K q1 101) q2 102) q3 103) q4 104) q5 105) q6 106) q7 108) q8 ∧ ∃ q9 : Nat, 255 ≤ (va_up (va_up (va_up (va_up (va_up (va_up (va_up (va_up K q1 101) q2 102) q3 103) q4 104) q5 105) q6 106) q7 108) q8 109) q9 ∧ ∃ q10 : Nat, 255 ≤ (va_up (va_up (va_up (va_up (va_up (va_up (va_up (va_up (va_up K q1 101) q2 102) q3 103) q4 104) q5 105) q6 106) q7 108) q8 109) q9 110) q10 ∧ ∃ q11 : Nat, 255 ≤ (va_up (va_up (va_up (va_up (va_up (va_up (va_up (va_up (va_up (va_up K q1 101) q2 102) q3 103) q4 104) q5 105) q6 106) q7 108) q8 109) q9 110) q10 111) q11 ∧ ∃ q12 : Nat, 255 ≤ (va_up (va_up (va_up (va_up (va_up (va_up (va_up (va_up (va_up (va_up (va_up K q1 101) q2 102) q3 103) q4 104) q5 105) q6 106) q7 108) q8 109) q9 110) q10 111) q11 112) q12 ∧ ∃ q13 : Nat, 255 ≤ (va_up (va_up (va_up (va_up (va_up (va_up (va_up (va_up (va_up (va_up (va_up (va_up K q1 101) q2 102) q3 103) q4 104) q5 105) q6 106) q7 108) q8 109) q9 110) q10 111) q11 112) q12 113) q13 ∧ ∃ q14 : Nat, 255 ≤ (va_up (va_up (va_up (va_up (va_up (va_up (va_up (va_up (va_up (va_up (va_up (va_up (va_up K q1 101) q2 102) q3 103) q4 104) q5 105) q6 106) q7 108) q8 109) q9 110) q10 111) q11 112) q12 113) q13 114) q14 ∧ ∃ q15 : Nat, 255 ≤ (va_up (va_up (va_up (va_up (va_up (va_up (va_up (va_up (va_up (va_up (va_up (va_up (va_up (va_up K q1 101) q2 102) q3 103) q4 104) q5 105) q6 106) q7 108) q8 109) q9 110) q10 111) q11 112) q12 113) q13 114) q14 115) q15 ∧ ∃ q16 : Nat, 255 ≤ (va_up (va_up (va_up (va_up (va_up (va_up (va_up (va_up (va_up (va_up (va_up (va_up (va_up (va_up (va_up K q1 101) q2 102) q3 103) q4 104) q5 105) q6 106) q7 108) q8 109) q9 110) q10 111) q11 112) q12 113) q13 114) q14 115) q15 116) q16 ∧ ∃ q17 : Nat, 255 ≤ (va_up (va_up (va_up (va_up (va_up (va_up (va_up (va_up (va_up (va_up (va_up (va_up (va_up (va_up (va_up (va_up K q1 101) q2 102) q3 103) q4 104) q5 105) q6 106) q7 108) q8 109) q9 110) q10 111) q11 112) q12 113) q13 114) q14 115) q15 116) q16 117) q17 ∧ ∃ q18 : Nat, 255 ≤ (va_up (va_up (va_up (va_up (va_up (va_up (va_up (va_up (va_up (va_up (va_up (va_up (va_up (va_up (va_up (va_up (va_up K q1 101) q2 102) q3 103) q4 104) q5 105) q6 106) q7 108) q8 109) q9 110) q10 111) q11 112) q12 113) q13 114) q14 115) q15 116) q16 117) q17 118) q18 ∧ ∃ q19 : Nat, 255 ≤ (va_up (va_up (va_up (va_up (va_up (va_up (va_up (va_up (va_up (va_up (va_up (va_up (va_up (va_up (va_up (va_up (va_up (va_up K q1 101) q2 102) q3 103) q4 104) q5 105) q6 106) q7 108) q8 109) q9 110) q10 111) q11 112) q12 113) q13 114) q14 115) q15 116) q16 117) q17 118) q18 119) q19 ∧ ∃ q20 : Nat, 255 ≤ (va_up (va_up (va_up (va_up (va_up (va_up (va_up (va_up (va_up (va_up (va_up (va_up (va_up (va_up (va_up (va_up (va_up (va_up (va_up K q1 101) q2 102) q3 103) q4 104) q5 105) q6 106) q7 108) q8 109) q9 110) q10 111) q11 112) q12 113) q13 114) q14 115) q15 116) q16 117) q17 118) q18 119) q19 120) q20 ∧ ∃ q21 : Nat, 255 ≤ (va_up (va_up (va_up (va_up (va_up (va_up (va_up (va_up (va_up (va_up (va_up (va_up (va_up (va_up (va_up (va_up (va_up (va_up (va_up (va_up K q1 101) q2 102) q3 103) q4 104) q5 105) q6 106) q7 108) q8 109) q9 110) q10 111) q11 112) q12 113) q13 114) q14 115) q15 116) q16 117) q17 118) q18 119) q19 120) q20 121) q21 ∧ ∃ q22 : Nat, 255 ≤ (va_up (va_up (va_up (va_up (va_up (va_up (va_up (va_up (va_up (va_up (va_up (va_up (va_up (va_up (va_up (va_up (va_up (va_up (va_up (va_up (va_up K q1 101) q2 102) q3 103) q4 104) q5 105) q6 106) q7 108) q8 109) q9 110) q10 111) q11 112) q12 113) q13 114) q14 115) q15 116) q16 117) q17 118) q18 119) q19 120) q20 121) q21 122) q22 ∧ ∃ q23 : Nat, 255 ≤ (va_up (va_up (va_up (va_up (va_up (va_up (va_up (va_up (va_up (va_up (va_up (va_up (va_up (va_up (va_up (va_up (va_up (va_up (va_up (va_up (va_up (va_up K q1 101) q2 102) q3 103) q4 104) q5 105) q6 106) q7 108) q8 109) q9 110) q10 111) q11 112) q12 113) q13 114) q14 115) q15 116) q16 117) q17 118) q18 119) q19 120) q20 121) q21 122) q22 123) q23 ∧ ∃ q24 : Nat, 255 ≤ (va_up (va_up (va_up (va_up (va_up (va_up (va_up (va_up (va_up (va_up (va_up (va_up (va_up (va_up (va_up (va_up (va_up (va_up (va_up (va_up (va_up (va_up (va_up K q1 101) q2 102) q3 103) q4 104) q5 105) q6 106) q7 108) q8 109) q9 110) q10 111) q11 112) q12 113) q13 114) q14 115) q15 116) q16 117) q17 118) q18 119) q19 120) q20 121) q21 122) q22 123) q23 124) q24 ∧ ∃ q25 : Nat, 255 ≤ (va_up (va_up (va_up (va_up (va_up (va_up (va_up (va_up (va_up (va_up (va_up (va_up (va_up (va_up (va_up (va_up (va_up (va_up (va_up (va_up (va_up (va_up (va_up (va_up K q1 101) q2 102) q3 103) q4 104) q5 105) q6 106) q7 108) q8 109) q9 110) q10 111) q11 112) q12 113) q13 114) q14 115) q15 116) q16 117) q17 118) q18 119) q19 120) q20 121) q21 122) q22 123) q23 124) q24 125) q25 ∧ ∃ q26 : Nat, 255 ≤ (va_up (va_up (va_up (va_up (va_up (va_up (va_up (va_up (va_up (va_up (va_up (va_up (va_up (va_up (va_up (va_up (va_up (va_up (va_up (va_up (va_up (va_up (va_up (va_up (va_up K q1 101) q2 102) q3 103) q4 104) q5 105) q6 106) q7 108) q8 109) q9 110) q10 111) q11 112) q12 113) q13 114) q14 115) q15 116) q16 117) q17 118) q18 119) q19 120) q20 121) q21 122) q22 123) q23 124) q24 125) q25 126) q26 ∧ ∃ q27 : Nat, 255 ≤ (va_up (va_up (va_up (va_up (va_up (va_up (va_up (va_up (va_up (va_up (va_up (va_up (va_up (va_up (va_up (va_up (va_up (va_up (va_up (va_up (va_up (va_up (va_up (va_up (va_up (va_up K q1 101) q2 102) q3 103) q4 104) q5 105) q6 106) q7 108) q8 109) q9 110) q10 111) q11 112) q12 113) q13 114) q14 115) q15 116) q16 117) q17 118) q18 119) q19 120) q20 121) q21 122) q22 123) q23 124) q24 125) q25 126) q26 127) q27 ∧ ∃ q28 : Nat, 255 ≤ (va_up (va_up (va_up (va_up (va_up (va_up (va_up (va_up (va_up (va_up (va_up (va_up (va_up (va_up (va_up (va_up (va_up (va_up (va_up (va_up (va_up (va_up (va_up (va_up (va_up (va_up (va_up K q1 101) q2 102) q3 103) q4 104) q5 105) q6 106) q7 108) q8 109) q9 110) q10 111) q11 112) q12 113) q13 114) q14 115) q15 116) q16 117) q17 118) q18 119) q19 120) q20 121) q21 122) q22 123) q23 124) q24 125) q25 126) q26 127) q27 128) q28 ∧ ∃ q29 : Nat, 255 ≤ (va_up (va_up (va_up (va_up (va_up (va_up (va_up (va_up (va_up (va_up (va_up (va_up (va_up (va_up (va_up (va_up (va_up (va_up (va_up (va_up (va_up (va_up (va_up (va_up (va_up (va_up (va_up (va_up K q1 101) q2 102) q3 103) q4 104) q5 105) q6 106) q7 108) q8 109) q9 110) q10 111) q11 112) q12 113) q13 114) q14 115) q15 116) q16 117) q17 118) q18 119) q19 120) q20 121) q21 122) q22 123) q23 124) q24 125) q25 126) q26 127) q27 128) q28 129) q29 ∧ ∃ q30 : Nat, 255 ≤ (va_up (va_up (va_up (va_up (va_up (va_up (va_up (va_up (va_up (va_up (va_up (va_up (va_up (va_up (va_up (va_up (va_up (va_up (va_up (va_up (va_up (va_up (va_up (va_up (va_up (va_up (va_up (va_up (va_up K q1 101) q2 102) q3 103) q4 104) q5 105) q6 106) q7 108) q8 109) q9 110) q10 111) q11 112) q12 113) q13 114) q14 115) q15 116) q16 117) q17 118) q18 119) q19 120) q20 121) q21 122) q22 123) q23 124) q24 125) q25 126) q26 127) q27 128) q28 129) q29 130) q30 ∧ ∃ q31 : Nat, 255 ≤ (va_up (va_up (va_up (va_up (va_up (va_up (va_up (va_up (va_up (va_up (va_up (va_up (va_up (va_up (va_up (va_up (va_up (va_up (va_up (va_up (va_up (va_up (va_up (va_up (va_up (va_up (va_up (va_up (va_up (va_up K q1 101) q2 102) q3 103) q4 104) q5 105) q6 106) q7 108) q8 109) q9 110) q10 111) q11 112) q12 113) q13 114) q14 115) q15 116) q16 117) q17 118) q18 119) q19 120) q20 121) q21 122) q22 123) q23 124) q24 125) q25 126) q26 127) q27 128) q28 129) q29 130) q30 131) q31 ∧ ∃ q32 : Nat, 255 ≤ (va_up (va_up (va_up (va_up (va_up (va_up (va_up (va_up (va_up (va_up (va_up (va_up (va_up (va_up (va_up (va_up (va_up (va_up (va_up (va_up (va_up (va_up (va_up (va_up (va_up (va_up (va_up (va_up (va_up (va_up (va_up K q1 101) q2 102) q3 103) q4 104) q5 105) q6 106) q7 108) q8 109) q9 110) q10 111) q11 112) q12 113) q13 114) q14 115) q15 116) q16 117) q17 118) q18 119) q19 120) q20 121) q21 122) q22 123) q23 124) q24 125) q25 126) q26 127) q27 128) q28 129) q29 130) q30 131) q31 132) q32 ∧ ∃ q33 : Nat, 255 ≤ (va_up (va_up (va_up (va_up (va_up (va_up (va_up (va_up (va_up (va_up (va_up (va_up (va_up (va_up (va_up (va_up (va_up (va_up (va_up (va_up (va_up (va_up (va_up (va_up (va_up (va_up (va_up (va_up (va_up (va_up (va_up (va_up K q1 101) q2 102) q3 103) q4 104) q5 105) q6 106) q7 108) q8 109) q9 110) q10 111) q11 112) q12 113) q13 114) q14 115) q15 116) q16 117) q17 118) q18 119) q19 120) q20 121) q21 122) q22 123) q23 124) q24 125) q25 126) q26 127) q27 128) q28 129) q29 130) q30 131) q31 132) q32 133) q33 ∧ ∃ q34 : Nat, 255 ≤ (va_up (va_up (va_up (va_up (va_up (va_up (va_up (va_up (va_up (va_up (va_up (va_up (va_up (va_up (va_up (va_up (va_up (va_up (va_up (va_up (va_up (va_up (va_up (va_up (va_up (va_up (va_up (va_up (va_up (va_up (va_up (va_up (va_up K q1 101) q2 102) q3 103) q4 104) q5 105) q6 106) q7 108) q8 109) q9 110) q10 111) q11 112) q12 113) q13 114) q14 115) q15 116) q16 117) q17 118) q18 119) q19 120) q20 121) q21 122) q22 123) q23 124) q24 125) q25 126) q26 127) q27 128) q28 129) q29 130) q30 131) q31 132) q32 133) q33 134) q34 ∧ ∃ q35 : Nat, 255 ≤ (va_up (va_up (va_up (va_up (va_up (va_up (va_up (va_up (va_up (va_up (va_up (va_up (va_up (va_up (va_up (va_up (va_up (va_up (va_up (va_up (va_up (va_up (va_up (va_up (va_up (va_up (va_up (va_up (va_up (va_up (va_up (va_up (va_up (va_up K q1 101) q2 102) q3 103) q4 104) q5 105) q6 106) q7 108) q8 109) q9 110) q10 111) q11 112) q12 113) q13 114) q14 115) q15 116) q16 117) q17 118) q18 119) q19 120) q20 121) q21 122) q22 123) q23 124) q24 125) q25 126) q26 127) q27 128) q28 129) q29 130) q30 131) q31 132) q32 133) q33 134) q34 145) q35 ∧ ∃ q36 : Nat, 255 ≤ (va_up (va_up (va_up (va_up (va_up (va_up (va_up (va_up (va_up (va_up (va_up (va_up (va_up (va_up (va_up (va_up (va_up (va_up (va_up (va_up (va_up (va_up (va_up (va_up (va_up (va_up (va_up (va_up (va_up (va_up (va_up (va_up (va_up (va_up (va_up K q1 101) q2 102) q3 103) q4 104) q5 105) q6 106) q7 108) q8 109) q9 110) q10 111) q11 112) q12 113) q13 114) q14 115) q15 116) q16 117) q17 118) q18 119) q19 120) q20 121) q21 122) q22 123) q23 124) q24 125) q25 126) q26 127) q27 128) q28 129) q29 130) q30 131) q31 132) q32 133) q33 134) q34 145) q35 146) q36 ∧ ∃ q37 : Nat, 255 ≤ (va_up (va_up (va_up (va_up (va_up (va_up (va_up (va_up (va_up (va_up (va_up (va_up (va_up (va_up (va_up (va_up (va_up (va_up (va_up (va_up (va_up (va_up (va_up (va_up (va_up (va_up (va_up (va_up (va_up (va_up (va_up (va_up (va_up (va_up (va_up (va_up K q1 101) q2 102) q3 103) q4 104) q5 105) q6 106) q7 108) q8 109) q9 110) q10 111) q11 112) q12 113) q13 114) q14 115) q15 116) q16 117) q17 118) q18 119) q19 120) q20 121) q21 122) q22 123) q23 124) q24 125) q25 126) q26 127) q27 128) q28 129) q29 130) q30 131) q31 132) q32 133) q33 134) q34 145) q35 146) q36 147) q37 ∧ ∃ q38 : Nat, 255 ≤ (va_up (va_up (va_up (va_up (va_up (va_up (va_up (va_up (va_up (va_up (va_up (va_up (va_up (va_up (va_up (va_up (va_up (va_up (va_up (va_up (va_up (va_up (va_up (va_up (va_up (va_up (va_up (va_up (va_up (va_up (va_up (va_up (va_up (va_up (va_up (va_up (va_up K q1 101) q2 102) q3 103) q4 104) q5 105) q6 106) q7 108) q8 109) q9 110) q10 111) q11 112) q12 113) q13 114) q14 115) q15 116) q16 117) q17 118) q18 119) q19 120) q20 121) q21 122) q22 123) q23 124) q24 125) q25 126) q26 127) q27 128) q28 129) q29 130) q30 131) q31 132) q32 133) q33 134) q34 145) q35 146) q36 147) q37 149) q38 ∧ K9 = (va_up (va_up (va_up (va_up (va_up (va_up (va_up (va_up (va_up (va_up (va_up (va_up (va_up (va_up (va_up (va_up (va_up (va_up (va_up (va_up (va_up (va_up (va_up (va_up (va_up (va_up (va_up (va_up (va_up (va_up (va_up (va_up (va_up (va_up (va_up (va_up (va_up (va_up K q1 101) q2 102) q3 103) q4 104) q5 105) q6 106) q7 108) q8 109) q9 110) q10 111) q11 112) q12 113) q13 114) q14 115) q15 116) q16 117) q17 118) q18 119) q19 120) q20 121) q21 122) q22 123) q23 124) q24 125) q25 126) q26 127) q27 128) q28 129) q29 130) q30 131) q31 132) q32 133) q33 134) q34 145) q35 146) q36 147) q37 149) q38 150) ∧ L9 = ((((((((((((((((((((((((((((((((((((((L ++ [q1]) ++ [q2]) ++ [q3]) ++ [q4]) ++ [q5]) ++ [q6]) ++ [q7]) ++ [q8]) ++ [q9]) ++ [q10]) ++ [q11]) ++ [q12]) ++ [q13]) ++ [q14]) ++ [q15]) ++ [q16]) ++ [q17]) ++ [q18]) ++ [q19]) ++ [q20]) ++ [q21]) ++ [q22]) ++ [q23]) ++ [q24]) ++ [q25]) ++ [q26]) ++ [q27]) ++ [q28]) ++ [q29]) ++ [q30]) ++ [q31]) ++ [q32]) ++ [q33]) ++ [q34]) ++ [q35]) ++ [q36]) ++ [q37]) ++ [q38]) ∧ c9 = (zur (znw (zur (znw (zur (znw (zur (znw (zur (znw (zur (znw (zur (znw (zur (znw (zur (znw (zur (znw (zur (znw (zur (znw (zur (znw (zur (znw (zur (znw (zur (znw (zur (znw (zur (znw (zur (znw (zur (znw (zur (znw (zur (znw (zur (znw (zur (znw (zur (znw (zur (znw (zur (znw (zur (znw (zur (znw (zur (znw (zur (znw (zur (znw (zur (znw (zur (znw (zur (znw (zur (znw (zur (znw (zur (znw r q1) 1 th 0 (some q1)) q2) 2 th 0 (some q2)) q3) 3 th 0 (some q3)) q4) 4 th 0 (some q4)) q5) 5 th 0 (some q5)) q6) 6 th 0 (some q6)) q7) 8 th 0 (some q7)) q8) 9 th 0 (some q8)) q9) 10 th 0 (some q9)) q10) 11 th 0 (some q10)) q11) 12 th 0 (some q11)) q12) 13 th 0 (some q12)) q13) 14 th 0 (some q13)) q14) 15 th 0 (some q14)) q15) 16 th 0 (some q15)) q16) 17 th 0 (some q16)) q17) 18 th 0 (some q17)) q18) 19 th 0 (some q18)) q19) 20 th 0 (some q19)) q20) 21 th 0 (some q20)) q21) 22 th 0 (some q21)) q22) 23 th 0 (some q22)) q23) 24 th 0 (some q23)) q24) 25 th 0 (some q24)) q25) 26 th 0 (some q25)) q26) 27 th 0 (some q26)) q27) 28 th 0 (some q27)) q28) 29 th 0 (some q28)) q29) 30 th 0 (some q29)) q30) 31 th 0 (some q30)) q31) 32 th 0 (some q31)) q32) 33 th 0 (some q32)) q33) 34 th 0 (some q33)) q34) 45 th 0 (some q34)) q35) 46 th 0 (some q35)) q36) 47 th 0 (some q36)) q37) 49 th 0 (some q37)) q38) 50 th 0 (some q38))
theorem g_X7_init_old {K : Nat → Nat} {L : List Nat} {r : zS} {th : Nat} {K9 : Nat → Nat} {L9 : List Nat} {c9 : zS} (h : g_X7_init K L r th K9 L9 c9) : ∀ a, K a < 255 → K9 a = K a := by
  obtain ⟨q1, hq_q1, q2, hq_q2, q3, hq_q3, q4, hq_q4, q5, hq_q5, q6, hq_q6, q7, hq_q7, q8, hq_q8, q9, hq_q9, q10, hq_q10, q11, hq_q11, q12, hq_q12, q13, hq_q13, q14, hq_q14, q15, hq_q15, q16, hq_q16, q17, hq_q17, q18, hq_q18, q19, hq_q19, q20, hq_q20, q21, hq_q21, q22, hq_q22, q23, hq_q23, q24, hq_q24, q25, hq_q25, q26, hq_q26, q27, hq_q27, q28, hq_q28, q29, hq_q29, q30, hq_q30, q31, hq_q31, q32, hq_q32, q33, hq_q33, q34, hq_q34, q35, hq_q35, q36, hq_q36, q37, hq_q37, q38, hq_q38, rfl, rfl, rfl⟩ := h
  intro a ha
  have h0 : K a < 255 := ha
  have e0 : K a = K a := rfl
  have e1 := zup_old (k := 101) hq_q1 e0 ha
  have e2 := zup_old (k := 102) hq_q2 e1 ha
  have e3 := zup_old (k := 103) hq_q3 e2 ha
  have e4 := zup_old (k := 104) hq_q4 e3 ha
  have e5 := zup_old (k := 105) hq_q5 e4 ha
  have e6 := zup_old (k := 106) hq_q6 e5 ha
  have e7 := zup_old (k := 108) hq_q7 e6 ha
  have e8 := zup_old (k := 109) hq_q8 e7 ha
  have e9 := zup_old (k := 110) hq_q9 e8 ha
  have e10 := zup_old (k := 111) hq_q10 e9 ha
  have e11 := zup_old (k := 112) hq_q11 e10 ha
  have e12 := zup_old (k := 113) hq_q12 e11 ha
  have e13 := zup_old (k := 114) hq_q13 e12 ha
  have e14 := zup_old (k := 115) hq_q14 e13 ha
  have e15 := zup_old (k := 116) hq_q15 e14 ha
  have e16 := zup_old (k := 117) hq_q16 e15 ha
  have e17 := zup_old (k := 118) hq_q17 e16 ha
  have e18 := zup_old (k := 119) hq_q18 e17 ha
  have e19 := zup_old (k := 120) hq_q19 e18 ha
  have e20 := zup_old (k := 121) hq_q20 e19 ha
  have e21 := zup_old (k := 122) hq_q21 e20 ha
  have e22 := zup_old (k := 123) hq_q22 e21 ha
  have e23 := zup_old (k := 124) hq_q23 e22 ha
  have e24 := zup_old (k := 125) hq_q24 e23 ha
  have e25 := zup_old (k := 126) hq_q25 e24 ha
  have e26 := zup_old (k := 127) hq_q26 e25 ha
  have e27 := zup_old (k := 128) hq_q27 e26 ha
  have e28 := zup_old (k := 129) hq_q28 e27 ha
  have e29 := zup_old (k := 130) hq_q29 e28 ha
  have e30 := zup_old (k := 131) hq_q30 e29 ha
  have e31 := zup_old (k := 132) hq_q31 e30 ha
  have e32 := zup_old (k := 133) hq_q32 e31 ha
  have e33 := zup_old (k := 134) hq_q33 e32 ha
  have e34 := zup_old (k := 145) hq_q34 e33 ha
  have e35 := zup_old (k := 146) hq_q35 e34 ha
  have e36 := zup_old (k := 147) hq_q36 e35 ha
  have e37 := zup_old (k := 149) hq_q37 e36 ha
  have e38 := zup_old (k := 150) hq_q38 e37 ha
  exact e38
set_option maxRecDepth 100000 in
set_option maxHeartbeats 4000000 in
theorem c_X7_init {l : Launch} {D : va_G} {cy : Nat → ClassId} {base : Nat} {st : Nat → Nat} {K : Nat → Nat} {L : List Nat} {c r : zS} {o : Int64} (th : Nat) (hk_th : K th = 7) : Met l yX7_init wsX7_init ({ frames := 1, cells := 38, slots := 27101, locals := 24 }) (va_Pc [.ref th] (zGW zts0 zns0 D cy base st K L (c, r, o))) (va_Qv (fun (u : (Nat → Nat) × List Nat × zS) => g_X7_init K L r th u.1 u.2.1 u.2.2) (fun u => zB D cy base u.1 u.2.1 (c, u.2.2, o)) (zA base)) 38 27101 (zA base) := by
  refine Met.ofW (cc := cX7_init) (maxL := 1) (ret := none) (by decide) rfl ?_
  intro p e s m args below meth cd s₁ B hml hv
  obtain ⟨rfl, hG⟩ := hv
  have hx := B.exec
  have hb := B.bytes
  have hr := B.returns
  have hts := atoms_spec (ws := wsX7_init) B.pre
  have hown : s.vm.findClass RX7 = some m.cls := findClass_of_methodNamed B.named
  have hlocks := B.notSynchronized
  have hin2 : meth.name = "<init>" := (name_of_methodNamed B.named B.method).1
  have hC := hG.enter
  have hK := hG.2.2.2.1
  have hi7 : ∀ w ∈ wsX70, w ∈ wsX7_init := by decide +kernel
  have w0 := hts (.methodLink RX7 1 objectInit) (by decide +kernel)
  have w1 := hts (.instanceMethod objectInit) (by decide +kernel)
  have w2 := hts (.code objectInit ⟨#[0xb1]⟩ 1 none) (by decide +kernel)
  have w3 := hts (.arrayClass .int) (by decide +kernel)
  have w4 := hts (.fieldLink RX7 9 "MarketSquareModel" "places" "[I") (by decide +kernel)
  have w5 := hts (.arrayClass .byte) (by decide +kernel)
  have w6 := hts (.fieldLink RX7 13 "MarketSquareModel" "marks" "[B") (by decide +kernel)
  have w7 := hts (.fieldLink RX7 17 "MarketSquareModel" "rates" "[I") (by decide +kernel)
  have w8 := hts (.fieldLink RX7 20 "MarketSquareModel" "limits" "[I") (by decide +kernel)
  have w9 := hts (.arrayClass .boolean) (by decide +kernel)
  have w10 := hts (.fieldLink RX7 23 "MarketSquareModel" "cloth" "[Z") (by decide +kernel)
  have w11 := hts (.fieldLink RX7 27 "MarketSquareModel" "paired" "[Z") (by decide +kernel)
  have w12 := hts (.fieldLink RX7 30 "MarketSquareModel" "kind" "[I") (by decide +kernel)
  have w13 := hts (.fieldLink RX7 33 "MarketSquareModel" "trade" "[I") (by decide +kernel)
  have w14 := hts (.fieldLink RX7 36 "MarketSquareModel" "front" "[I") (by decide +kernel)
  have w15 := hts (.fieldLink RX7 39 "MarketSquareModel" "rank" "[I") (by decide +kernel)
  have w16 := hts (.fieldLink RX7 42 "MarketSquareModel" "hasPitch" "[Z") (by decide +kernel)
  have w17 := hts (.fieldLink RX7 45 "MarketSquareModel" "pitchRow" "[I") (by decide +kernel)
  have w18 := hts (.fieldLink RX7 48 "MarketSquareModel" "pitchPlace" "[I") (by decide +kernel)
  have w19 := hts (.fieldLink RX7 51 "MarketSquareModel" "monthBits" "[I") (by decide +kernel)
  have w20 := hts (.fieldLink RX7 54 "MarketSquareModel" "wishRow" "[I") (by decide +kernel)
  have w21 := hts (.fieldLink RX7 57 "MarketSquareModel" "wishPlace" "[I") (by decide +kernel)
  have w22 := hts (.fieldLink RX7 60 "MarketSquareModel" "wishMany" "[I") (by decide +kernel)
  have w23 := hts (.fieldLink RX7 63 "MarketSquareModel" "any" "[Z") (by decide +kernel)
  have w24 := hts (.fieldLink RX7 66 "MarketSquareModel" "wants" "[Z") (by decide +kernel)
  have w25 := hts (.fieldLink RX7 69 "MarketSquareModel" "isThere" "[Z") (by decide +kernel)
  have w26 := hts (.fieldLink RX7 72 "MarketSquareModel" "gaveWord" "[Z") (by decide +kernel)
  have w27 := hts (.fieldLink RX7 75 "MarketSquareModel" "slighted" "[Z") (by decide +kernel)
  have w28 := hts (.fieldLink RX7 78 "MarketSquareModel" "passed" "[Z") (by decide +kernel)
  have w29 := hts (.fieldLink RX7 81 "MarketSquareModel" "hasLeft" "[Z") (by decide +kernel)
  have w30 := hts (.fieldLink RX7 84 "MarketSquareModel" "stood" "[Z") (by decide +kernel)
  have w31 := hts (.fieldLink RX7 87 "MarketSquareModel" "stands" "[Z") (by decide +kernel)
  have w32 := hts (.fieldLink RX7 90 "MarketSquareModel" "stallRow" "[I") (by decide +kernel)
  have w33 := hts (.fieldLink RX7 93 "MarketSquareModel" "stallPlace" "[I") (by decide +kernel)
  have w34 := hts (.fieldLink RX7 96 "MarketSquareModel" "stallHour" "[I") (by decide +kernel)
  have w35 := hts (.fieldLink RX7 99 "MarketSquareModel" "thereBits" "[I") (by decide +kernel)
  have w36 := hts (.fieldLink RX7 102 "MarketSquareModel" "awayBits" "[I") (by decide +kernel)
  have w37 := hts (.fieldLink RX7 105 "MarketSquareModel" "last" "[I") (by decide +kernel)
  have w38 := hts (.arrayClass .long) (by decide +kernel)
  have w39 := hts (.fieldLink RX7 108 "MarketSquareModel" "owed" "[J") (by decide +kernel)
  have w40 := hts (.fieldLink RX7 112 "MarketSquareModel" "taken" "[Z") (by decide +kernel)
  have w41 := hts (.fieldLink RX7 115 "MarketSquareModel" "run" "[I") (by decide +kernel)
  have w42 := hts (.fieldLink RX7 118 "MarketSquareModel" "row" "[I") (by decide +kernel)
  have w43 := hts (.fieldLink RX7 121 "MarketSquareModel" "ranked" "[I") (by decide +kernel)
  have w44 := hts (.fieldLink RX7 124 "MarketSquareModel" "misses" "[Z") (by decide +kernel)
  have hl := lv_entry ([.ref th]) (n := 1) (Nat.le_of_ble_eq_true rfl)
  rw [lg_entry_eq]
  generalize (lg_sl ([.ref th]) ++ List.replicate (1 - (lg_sl ([.ref th])).length) Slot.unset).toArray = ls at hl ⊢
  have hl : lv_has ls 1 [(0, .ref th)] := hl
  refine lv_aload_n hx hb dX7_init_0 rfl (lv_at hl 0 rfl) ?_
  refine z_obj hx hb hown w0 w1 w2 (by rw [hml]; exact hl.1) dX7_init_1 (Nat.le_of_ble_eq_true rfl) (Nat.le_of_ble_eq_true rfl) ?_
  refine lv_aload_n hx hb dX7_init_4 rfl (lv_at hl 0 rfl) ?_
  refine lv_bipush (v := 40) hx hb dX7_init_5 (by decide) ?_
  refine z_newai (Zn := fun q => (c, znw r q, o)) (lab := 101) (N' := 40) hx hb w3 hK hG.1 hC (by decide) (by decide) (by decide) (Nat.le_of_ble_eq_true rfl) (Nat.le_of_ble_eq_true rfl) (fun q => by rw [zc_101]; rw [zi_znq]) (fun q => zOff.mnw) dX7_init_7 (fun q1 H hq_q1 hC => ?_)
  have n_q1 : th ≠ q1 := fun e => by rw [e] at hk_th; omega
  have hk_th : (va_up K q1 101) th = 7 := zup_old hq_q1 hk_th (by decide)
  have hk_q1 : (va_up K q1 101) q1 = 101 := va_up_self _ _ _
  refine zp_7_1 (x := some q1) (r1 := (zur (znw r q1) 1 th 0 (some q1))) hx hb hts hi7 hown hK hC hk_th w4 hin2 rfl rfl dX7_init_9 (fun H locs hC => ?_)
  refine lv_aload_n hx hb dX7_init_12 rfl (lv_at hl 0 rfl) ?_
  refine lv_sipush (v := 8000) hx hb dX7_init_13 (by decide) ?_
  refine z_newab (Zn := fun q => (c, znw (zur (znw r q1) 1 th 0 (some q1)) q, o)) (lab := 102) (N' := 8000) hx hb w5 hK hG.1 hC (by decide) (by decide) (by decide) (Nat.le_of_ble_eq_true rfl) (Nat.le_of_ble_eq_true rfl) (fun q => by rw [zc_102]; rw [zi_znq]) (fun q => zOff.mnw) dX7_init_16 (fun q2 H hq_q2 hC => ?_)
  have n_q2 : th ≠ q2 := fun e => by rw [e] at hk_th; omega
  have hk_th : (va_up (va_up K q1 101) q2 102) th = 7 := zup_old hq_q2 hk_th (by decide)
  have hk_q2 : (va_up (va_up K q1 101) q2 102) q2 = 102 := va_up_self _ _ _
  refine zp_7_2 (x := some q2) (r1 := (zur (znw (zur (znw r q1) 1 th 0 (some q1)) q2) 2 th 0 (some q2))) hx hb hts hi7 hown hK hC hk_th w6 hin2 rfl rfl dX7_init_18 (fun H locs hC => ?_)
  refine lv_aload_n hx hb dX7_init_21 rfl (lv_at hl 0 rfl) ?_
  refine lv_bipush (v := 20) hx hb dX7_init_22 (by decide) ?_
  refine z_newai (Zn := fun q => (c, znw (zur (znw (zur (znw r q1) 1 th 0 (some q1)) q2) 2 th 0 (some q2)) q, o)) (lab := 103) (N' := 20) hx hb w3 hK hG.1 hC (by decide) (by decide) (by decide) (Nat.le_of_ble_eq_true rfl) (Nat.le_of_ble_eq_true rfl) (fun q => by rw [zc_103]; rw [zi_znq]) (fun q => zOff.mnw) dX7_init_24 (fun q3 H hq_q3 hC => ?_)
  have n_q3 : th ≠ q3 := fun e => by rw [e] at hk_th; omega
  have hk_th : (va_up (va_up (va_up K q1 101) q2 102) q3 103) th = 7 := zup_old hq_q3 hk_th (by decide)
  have hk_q3 : (va_up (va_up (va_up K q1 101) q2 102) q3 103) q3 = 103 := va_up_self _ _ _
  refine zp_7_3 (x := some q3) (r1 := (zur (znw (zur (znw (zur (znw r q1) 1 th 0 (some q1)) q2) 2 th 0 (some q2)) q3) 3 th 0 (some q3))) hx hb hts hi7 hown hK hC hk_th w7 hin2 rfl rfl dX7_init_26 (fun H locs hC => ?_)
  refine lv_aload_n hx hb dX7_init_29 rfl (lv_at hl 0 rfl) ?_
  refine lv_bipush (v := 20) hx hb dX7_init_30 (by decide) ?_
  refine z_newai (Zn := fun q => (c, znw (zur (znw (zur (znw (zur (znw r q1) 1 th 0 (some q1)) q2) 2 th 0 (some q2)) q3) 3 th 0 (some q3)) q, o)) (lab := 104) (N' := 20) hx hb w3 hK hG.1 hC (by decide) (by decide) (by decide) (Nat.le_of_ble_eq_true rfl) (Nat.le_of_ble_eq_true rfl) (fun q => by rw [zc_104]; rw [zi_znq]) (fun q => zOff.mnw) dX7_init_32 (fun q4 H hq_q4 hC => ?_)
  have n_q4 : th ≠ q4 := fun e => by rw [e] at hk_th; omega
  have hk_th : (va_up (va_up (va_up (va_up K q1 101) q2 102) q3 103) q4 104) th = 7 := zup_old hq_q4 hk_th (by decide)
  have hk_q4 : (va_up (va_up (va_up (va_up K q1 101) q2 102) q3 103) q4 104) q4 = 104 := va_up_self _ _ _
  refine zp_7_4 (x := some q4) (r1 := (zur (znw (zur (znw (zur (znw (zur (znw r q1) 1 th 0 (some q1)) q2) 2 th 0 (some q2)) q3) 3 th 0 (some q3)) q4) 4 th 0 (some q4))) hx hb hts hi7 hown hK hC hk_th w8 hin2 rfl rfl dX7_init_34 (fun H locs hC => ?_)
  refine lv_aload_n hx hb dX7_init_37 rfl (lv_at hl 0 rfl) ?_
  refine lv_bipush (v := 20) hx hb dX7_init_38 (by decide) ?_
  refine z_newaz (Zn := fun q => (c, znw (zur (znw (zur (znw (zur (znw (zur (znw r q1) 1 th 0 (some q1)) q2) 2 th 0 (some q2)) q3) 3 th 0 (some q3)) q4) 4 th 0 (some q4)) q, o)) (lab := 105) (N' := 20) hx hb w9 hK hG.1 hC (by decide) (by decide) (by decide) (Nat.le_of_ble_eq_true rfl) (Nat.le_of_ble_eq_true rfl) (fun q => by rw [zc_105]; rw [zi_znq]) (fun q => zOff.mnw) dX7_init_40 (fun q5 H hq_q5 hC => ?_)
  have n_q5 : th ≠ q5 := fun e => by rw [e] at hk_th; omega
  have hk_th : (va_up (va_up (va_up (va_up (va_up K q1 101) q2 102) q3 103) q4 104) q5 105) th = 7 := zup_old hq_q5 hk_th (by decide)
  have hk_q5 : (va_up (va_up (va_up (va_up (va_up K q1 101) q2 102) q3 103) q4 104) q5 105) q5 = 105 := va_up_self _ _ _
  refine zp_7_5 (x := some q5) (r1 := (zur (znw (zur (znw (zur (znw (zur (znw (zur (znw r q1) 1 th 0 (some q1)) q2) 2 th 0 (some q2)) q3) 3 th 0 (some q3)) q4) 4 th 0 (some q4)) q5) 5 th 0 (some q5))) hx hb hts hi7 hown hK hC hk_th w10 hin2 rfl rfl dX7_init_42 (fun H locs hC => ?_)
  refine lv_aload_n hx hb dX7_init_45 rfl (lv_at hl 0 rfl) ?_
  refine lv_sipush (v := 400) hx hb dX7_init_46 (by decide) ?_
  refine z_newaz (Zn := fun q => (c, znw (zur (znw (zur (znw (zur (znw (zur (znw (zur (znw r q1) 1 th 0 (some q1)) q2) 2 th 0 (some q2)) q3) 3 th 0 (some q3)) q4) 4 th 0 (some q4)) q5) 5 th 0 (some q5)) q, o)) (lab := 106) (N' := 400) hx hb w9 hK hG.1 hC (by decide) (by decide) (by decide) (Nat.le_of_ble_eq_true rfl) (Nat.le_of_ble_eq_true rfl) (fun q => by rw [zc_106]; rw [zi_znq]) (fun q => zOff.mnw) dX7_init_49 (fun q6 H hq_q6 hC => ?_)
  have n_q6 : th ≠ q6 := fun e => by rw [e] at hk_th; omega
  have hk_th : (va_up (va_up (va_up (va_up (va_up (va_up K q1 101) q2 102) q3 103) q4 104) q5 105) q6 106) th = 7 := zup_old hq_q6 hk_th (by decide)
  have hk_q6 : (va_up (va_up (va_up (va_up (va_up (va_up K q1 101) q2 102) q3 103) q4 104) q5 105) q6 106) q6 = 106 := va_up_self _ _ _
  refine zp_7_6 (x := some q6) (r1 := (zur (znw (zur (znw (zur (znw (zur (znw (zur (znw (zur (znw r q1) 1 th 0 (some q1)) q2) 2 th 0 (some q2)) q3) 3 th 0 (some q3)) q4) 4 th 0 (some q4)) q5) 5 th 0 (some q5)) q6) 6 th 0 (some q6))) hx hb hts hi7 hown hK hC hk_th w11 hin2 rfl rfl dX7_init_51 (fun H locs hC => ?_)
  refine lv_aload_n hx hb dX7_init_54 rfl (lv_at hl 0 rfl) ?_
  refine lv_sipush (v := 200) hx hb dX7_init_55 (by decide) ?_
  refine z_newai (Zn := fun q => (c, znw (zur (znw (zur (znw (zur (znw (zur (znw (zur (znw (zur (znw r q1) 1 th 0 (some q1)) q2) 2 th 0 (some q2)) q3) 3 th 0 (some q3)) q4) 4 th 0 (some q4)) q5) 5 th 0 (some q5)) q6) 6 th 0 (some q6)) q, o)) (lab := 108) (N' := 200) hx hb w3 hK hG.1 hC (by decide) (by decide) (by decide) (Nat.le_of_ble_eq_true rfl) (Nat.le_of_ble_eq_true rfl) (fun q => by rw [zc_108]; rw [zi_znq]) (fun q => zOff.mnw) dX7_init_58 (fun q7 H hq_q7 hC => ?_)
  have n_q7 : th ≠ q7 := fun e => by rw [e] at hk_th; omega
  have hk_th : (va_up (va_up (va_up (va_up (va_up (va_up (va_up K q1 101) q2 102) q3 103) q4 104) q5 105) q6 106) q7 108) th = 7 := zup_old hq_q7 hk_th (by decide)
  have hk_q7 : (va_up (va_up (va_up (va_up (va_up (va_up (va_up K q1 101) q2 102) q3 103) q4 104) q5 105) q6 106) q7 108) q7 = 108 := va_up_self _ _ _
  refine zp_7_8 (x := some q7) (r1 := (zur (znw (zur (znw (zur (znw (zur (znw (zur (znw (zur (znw (zur (znw r q1) 1 th 0 (some q1)) q2) 2 th 0 (some q2)) q3) 3 th 0 (some q3)) q4) 4 th 0 (some q4)) q5) 5 th 0 (some q5)) q6) 6 th 0 (some q6)) q7) 8 th 0 (some q7))) hx hb hts hi7 hown hK hC hk_th w12 hin2 rfl rfl dX7_init_60 (fun H locs hC => ?_)
  refine lv_aload_n hx hb dX7_init_63 rfl (lv_at hl 0 rfl) ?_
  refine lv_sipush (v := 200) hx hb dX7_init_64 (by decide) ?_
  refine z_newai (Zn := fun q => (c, znw (zur (znw (zur (znw (zur (znw (zur (znw (zur (znw (zur (znw (zur (znw r q1) 1 th 0 (some q1)) q2) 2 th 0 (some q2)) q3) 3 th 0 (some q3)) q4) 4 th 0 (some q4)) q5) 5 th 0 (some q5)) q6) 6 th 0 (some q6)) q7) 8 th 0 (some q7)) q, o)) (lab := 109) (N' := 200) hx hb w3 hK hG.1 hC (by decide) (by decide) (by decide) (Nat.le_of_ble_eq_true rfl) (Nat.le_of_ble_eq_true rfl) (fun q => by rw [zc_109]; rw [zi_znq]) (fun q => zOff.mnw) dX7_init_67 (fun q8 H hq_q8 hC => ?_)
  have n_q8 : th ≠ q8 := fun e => by rw [e] at hk_th; omega
  have hk_th : (va_up (va_up (va_up (va_up (va_up (va_up (va_up (va_up K q1 101) q2 102) q3 103) q4 104) q5 105) q6 106) q7 108) q8 109) th = 7 := zup_old hq_q8 hk_th (by decide)
  have hk_q8 : (va_up (va_up (va_up (va_up (va_up (va_up (va_up (va_up K q1 101) q2 102) q3 103) q4 104) q5 105) q6 106) q7 108) q8 109) q8 = 109 := va_up_self _ _ _
  refine zp_7_9 (x := some q8) (r1 := (zur (znw (zur (znw (zur (znw (zur (znw (zur (znw (zur (znw (zur (znw (zur (znw r q1) 1 th 0 (some q1)) q2) 2 th 0 (some q2)) q3) 3 th 0 (some q3)) q4) 4 th 0 (some q4)) q5) 5 th 0 (some q5)) q6) 6 th 0 (some q6)) q7) 8 th 0 (some q7)) q8) 9 th 0 (some q8))) hx hb hts hi7 hown hK hC hk_th w13 hin2 rfl rfl dX7_init_69 (fun H locs hC => ?_)
  refine lv_aload_n hx hb dX7_init_72 rfl (lv_at hl 0 rfl) ?_
  refine lv_sipush (v := 200) hx hb dX7_init_73 (by decide) ?_
  refine z_newai (Zn := fun q => (c, znw (zur (znw (zur (znw (zur (znw (zur (znw (zur (znw (zur (znw (zur (znw (zur (znw r q1) 1 th 0 (some q1)) q2) 2 th 0 (some q2)) q3) 3 th 0 (some q3)) q4) 4 th 0 (some q4)) q5) 5 th 0 (some q5)) q6) 6 th 0 (some q6)) q7) 8 th 0 (some q7)) q8) 9 th 0 (some q8)) q, o)) (lab := 110) (N' := 200) hx hb w3 hK hG.1 hC (by decide) (by decide) (by decide) (Nat.le_of_ble_eq_true rfl) (Nat.le_of_ble_eq_true rfl) (fun q => by rw [zc_110]; rw [zi_znq]) (fun q => zOff.mnw) dX7_init_76 (fun q9 H hq_q9 hC => ?_)
  have n_q9 : th ≠ q9 := fun e => by rw [e] at hk_th; omega
  have hk_th : (va_up (va_up (va_up (va_up (va_up (va_up (va_up (va_up (va_up K q1 101) q2 102) q3 103) q4 104) q5 105) q6 106) q7 108) q8 109) q9 110) th = 7 := zup_old hq_q9 hk_th (by decide)
  have hk_q9 : (va_up (va_up (va_up (va_up (va_up (va_up (va_up (va_up (va_up K q1 101) q2 102) q3 103) q4 104) q5 105) q6 106) q7 108) q8 109) q9 110) q9 = 110 := va_up_self _ _ _
  refine zp_7_10 (x := some q9) (r1 := (zur (znw (zur (znw (zur (znw (zur (znw (zur (znw (zur (znw (zur (znw (zur (znw (zur (znw r q1) 1 th 0 (some q1)) q2) 2 th 0 (some q2)) q3) 3 th 0 (some q3)) q4) 4 th 0 (some q4)) q5) 5 th 0 (some q5)) q6) 6 th 0 (some q6)) q7) 8 th 0 (some q7)) q8) 9 th 0 (some q8)) q9) 10 th 0 (some q9))) hx hb hts hi7 hown hK hC hk_th w14 hin2 rfl rfl dX7_init_78 (fun H locs hC => ?_)
  refine lv_aload_n hx hb dX7_init_81 rfl (lv_at hl 0 rfl) ?_
  refine lv_sipush (v := 200) hx hb dX7_init_82 (by decide) ?_
  refine z_newai (Zn := fun q => (c, znw (zur (znw (zur (znw (zur (znw (zur (znw (zur (znw (zur (znw (zur (znw (zur (znw (zur (znw r q1) 1 th 0 (some q1)) q2) 2 th 0 (some q2)) q3) 3 th 0 (some q3)) q4) 4 th 0 (some q4)) q5) 5 th 0 (some q5)) q6) 6 th 0 (some q6)) q7) 8 th 0 (some q7)) q8) 9 th 0 (some q8)) q9) 10 th 0 (some q9)) q, o)) (lab := 111) (N' := 200) hx hb w3 hK hG.1 hC (by decide) (by decide) (by decide) (Nat.le_of_ble_eq_true rfl) (Nat.le_of_ble_eq_true rfl) (fun q => by rw [zc_111]; rw [zi_znq]) (fun q => zOff.mnw) dX7_init_85 (fun q10 H hq_q10 hC => ?_)
  have n_q10 : th ≠ q10 := fun e => by rw [e] at hk_th; omega
  have hk_th : (va_up (va_up (va_up (va_up (va_up (va_up (va_up (va_up (va_up (va_up K q1 101) q2 102) q3 103) q4 104) q5 105) q6 106) q7 108) q8 109) q9 110) q10 111) th = 7 := zup_old hq_q10 hk_th (by decide)
  have hk_q10 : (va_up (va_up (va_up (va_up (va_up (va_up (va_up (va_up (va_up (va_up K q1 101) q2 102) q3 103) q4 104) q5 105) q6 106) q7 108) q8 109) q9 110) q10 111) q10 = 111 := va_up_self _ _ _
  refine zp_7_11 (x := some q10) (r1 := (zur (znw (zur (znw (zur (znw (zur (znw (zur (znw (zur (znw (zur (znw (zur (znw (zur (znw (zur (znw r q1) 1 th 0 (some q1)) q2) 2 th 0 (some q2)) q3) 3 th 0 (some q3)) q4) 4 th 0 (some q4)) q5) 5 th 0 (some q5)) q6) 6 th 0 (some q6)) q7) 8 th 0 (some q7)) q8) 9 th 0 (some q8)) q9) 10 th 0 (some q9)) q10) 11 th 0 (some q10))) hx hb hts hi7 hown hK hC hk_th w15 hin2 rfl rfl dX7_init_87 (fun H locs hC => ?_)
  refine lv_aload_n hx hb dX7_init_90 rfl (lv_at hl 0 rfl) ?_
  refine lv_sipush (v := 200) hx hb dX7_init_91 (by decide) ?_
  refine z_newaz (Zn := fun q => (c, znw (zur (znw (zur (znw (zur (znw (zur (znw (zur (znw (zur (znw (zur (znw (zur (znw (zur (znw (zur (znw r q1) 1 th 0 (some q1)) q2) 2 th 0 (some q2)) q3) 3 th 0 (some q3)) q4) 4 th 0 (some q4)) q5) 5 th 0 (some q5)) q6) 6 th 0 (some q6)) q7) 8 th 0 (some q7)) q8) 9 th 0 (some q8)) q9) 10 th 0 (some q9)) q10) 11 th 0 (some q10)) q, o)) (lab := 112) (N' := 200) hx hb w9 hK hG.1 hC (by decide) (by decide) (by decide) (Nat.le_of_ble_eq_true rfl) (Nat.le_of_ble_eq_true rfl) (fun q => by rw [zc_112]; rw [zi_znq]) (fun q => zOff.mnw) dX7_init_94 (fun q11 H hq_q11 hC => ?_)
  have n_q11 : th ≠ q11 := fun e => by rw [e] at hk_th; omega
  have hk_th : (va_up (va_up (va_up (va_up (va_up (va_up (va_up (va_up (va_up (va_up (va_up K q1 101) q2 102) q3 103) q4 104) q5 105) q6 106) q7 108) q8 109) q9 110) q10 111) q11 112) th = 7 := zup_old hq_q11 hk_th (by decide)
  have hk_q11 : (va_up (va_up (va_up (va_up (va_up (va_up (va_up (va_up (va_up (va_up (va_up K q1 101) q2 102) q3 103) q4 104) q5 105) q6 106) q7 108) q8 109) q9 110) q10 111) q11 112) q11 = 112 := va_up_self _ _ _
  refine zp_7_12 (x := some q11) (r1 := (zur (znw (zur (znw (zur (znw (zur (znw (zur (znw (zur (znw (zur (znw (zur (znw (zur (znw (zur (znw (zur (znw r q1) 1 th 0 (some q1)) q2) 2 th 0 (some q2)) q3) 3 th 0 (some q3)) q4) 4 th 0 (some q4)) q5) 5 th 0 (some q5)) q6) 6 th 0 (some q6)) q7) 8 th 0 (some q7)) q8) 9 th 0 (some q8)) q9) 10 th 0 (some q9)) q10) 11 th 0 (some q10)) q11) 12 th 0 (some q11))) hx hb hts hi7 hown hK hC hk_th w16 hin2 rfl rfl dX7_init_96 (fun H locs hC => ?_)
  refine lv_aload_n hx hb dX7_init_99 rfl (lv_at hl 0 rfl) ?_
  refine lv_sipush (v := 200) hx hb dX7_init_100 (by decide) ?_
  refine z_newai (Zn := fun q => (c, znw (zur (znw (zur (znw (zur (znw (zur (znw (zur (znw (zur (znw (zur (znw (zur (znw (zur (znw (zur (znw (zur (znw r q1) 1 th 0 (some q1)) q2) 2 th 0 (some q2)) q3) 3 th 0 (some q3)) q4) 4 th 0 (some q4)) q5) 5 th 0 (some q5)) q6) 6 th 0 (some q6)) q7) 8 th 0 (some q7)) q8) 9 th 0 (some q8)) q9) 10 th 0 (some q9)) q10) 11 th 0 (some q10)) q11) 12 th 0 (some q11)) q, o)) (lab := 113) (N' := 200) hx hb w3 hK hG.1 hC (by decide) (by decide) (by decide) (Nat.le_of_ble_eq_true rfl) (Nat.le_of_ble_eq_true rfl) (fun q => by rw [zc_113]; rw [zi_znq]) (fun q => zOff.mnw) dX7_init_103 (fun q12 H hq_q12 hC => ?_)
  have n_q12 : th ≠ q12 := fun e => by rw [e] at hk_th; omega
  have hk_th : (va_up (va_up (va_up (va_up (va_up (va_up (va_up (va_up (va_up (va_up (va_up (va_up K q1 101) q2 102) q3 103) q4 104) q5 105) q6 106) q7 108) q8 109) q9 110) q10 111) q11 112) q12 113) th = 7 := zup_old hq_q12 hk_th (by decide)
  have hk_q12 : (va_up (va_up (va_up (va_up (va_up (va_up (va_up (va_up (va_up (va_up (va_up (va_up K q1 101) q2 102) q3 103) q4 104) q5 105) q6 106) q7 108) q8 109) q9 110) q10 111) q11 112) q12 113) q12 = 113 := va_up_self _ _ _
  refine zp_7_13 (x := some q12) (r1 := (zur (znw (zur (znw (zur (znw (zur (znw (zur (znw (zur (znw (zur (znw (zur (znw (zur (znw (zur (znw (zur (znw (zur (znw r q1) 1 th 0 (some q1)) q2) 2 th 0 (some q2)) q3) 3 th 0 (some q3)) q4) 4 th 0 (some q4)) q5) 5 th 0 (some q5)) q6) 6 th 0 (some q6)) q7) 8 th 0 (some q7)) q8) 9 th 0 (some q8)) q9) 10 th 0 (some q9)) q10) 11 th 0 (some q10)) q11) 12 th 0 (some q11)) q12) 13 th 0 (some q12))) hx hb hts hi7 hown hK hC hk_th w17 hin2 rfl rfl dX7_init_105 (fun H locs hC => ?_)
  refine lv_aload_n hx hb dX7_init_108 rfl (lv_at hl 0 rfl) ?_
  refine lv_sipush (v := 200) hx hb dX7_init_109 (by decide) ?_
  refine z_newai (Zn := fun q => (c, znw (zur (znw (zur (znw (zur (znw (zur (znw (zur (znw (zur (znw (zur (znw (zur (znw (zur (znw (zur (znw (zur (znw (zur (znw r q1) 1 th 0 (some q1)) q2) 2 th 0 (some q2)) q3) 3 th 0 (some q3)) q4) 4 th 0 (some q4)) q5) 5 th 0 (some q5)) q6) 6 th 0 (some q6)) q7) 8 th 0 (some q7)) q8) 9 th 0 (some q8)) q9) 10 th 0 (some q9)) q10) 11 th 0 (some q10)) q11) 12 th 0 (some q11)) q12) 13 th 0 (some q12)) q, o)) (lab := 114) (N' := 200) hx hb w3 hK hG.1 hC (by decide) (by decide) (by decide) (Nat.le_of_ble_eq_true rfl) (Nat.le_of_ble_eq_true rfl) (fun q => by rw [zc_114]; rw [zi_znq]) (fun q => zOff.mnw) dX7_init_112 (fun q13 H hq_q13 hC => ?_)
  have n_q13 : th ≠ q13 := fun e => by rw [e] at hk_th; omega
  have hk_th : (va_up (va_up (va_up (va_up (va_up (va_up (va_up (va_up (va_up (va_up (va_up (va_up (va_up K q1 101) q2 102) q3 103) q4 104) q5 105) q6 106) q7 108) q8 109) q9 110) q10 111) q11 112) q12 113) q13 114) th = 7 := zup_old hq_q13 hk_th (by decide)
  have hk_q13 : (va_up (va_up (va_up (va_up (va_up (va_up (va_up (va_up (va_up (va_up (va_up (va_up (va_up K q1 101) q2 102) q3 103) q4 104) q5 105) q6 106) q7 108) q8 109) q9 110) q10 111) q11 112) q12 113) q13 114) q13 = 114 := va_up_self _ _ _
  refine zp_7_14 (x := some q13) (r1 := (zur (znw (zur (znw (zur (znw (zur (znw (zur (znw (zur (znw (zur (znw (zur (znw (zur (znw (zur (znw (zur (znw (zur (znw (zur (znw r q1) 1 th 0 (some q1)) q2) 2 th 0 (some q2)) q3) 3 th 0 (some q3)) q4) 4 th 0 (some q4)) q5) 5 th 0 (some q5)) q6) 6 th 0 (some q6)) q7) 8 th 0 (some q7)) q8) 9 th 0 (some q8)) q9) 10 th 0 (some q9)) q10) 11 th 0 (some q10)) q11) 12 th 0 (some q11)) q12) 13 th 0 (some q12)) q13) 14 th 0 (some q13))) hx hb hts hi7 hown hK hC hk_th w18 hin2 rfl rfl dX7_init_114 (fun H locs hC => ?_)
  refine lv_aload_n hx hb dX7_init_117 rfl (lv_at hl 0 rfl) ?_
  refine lv_sipush (v := 200) hx hb dX7_init_118 (by decide) ?_
  refine z_newai (Zn := fun q => (c, znw (zur (znw (zur (znw (zur (znw (zur (znw (zur (znw (zur (znw (zur (znw (zur (znw (zur (znw (zur (znw (zur (znw (zur (znw (zur (znw r q1) 1 th 0 (some q1)) q2) 2 th 0 (some q2)) q3) 3 th 0 (some q3)) q4) 4 th 0 (some q4)) q5) 5 th 0 (some q5)) q6) 6 th 0 (some q6)) q7) 8 th 0 (some q7)) q8) 9 th 0 (some q8)) q9) 10 th 0 (some q9)) q10) 11 th 0 (some q10)) q11) 12 th 0 (some q11)) q12) 13 th 0 (some q12)) q13) 14 th 0 (some q13)) q, o)) (lab := 115) (N' := 200) hx hb w3 hK hG.1 hC (by decide) (by decide) (by decide) (Nat.le_of_ble_eq_true rfl) (Nat.le_of_ble_eq_true rfl) (fun q => by rw [zc_115]; rw [zi_znq]) (fun q => zOff.mnw) dX7_init_121 (fun q14 H hq_q14 hC => ?_)
  have n_q14 : th ≠ q14 := fun e => by rw [e] at hk_th; omega
  have hk_th : (va_up (va_up (va_up (va_up (va_up (va_up (va_up (va_up (va_up (va_up (va_up (va_up (va_up (va_up K q1 101) q2 102) q3 103) q4 104) q5 105) q6 106) q7 108) q8 109) q9 110) q10 111) q11 112) q12 113) q13 114) q14 115) th = 7 := zup_old hq_q14 hk_th (by decide)
  have hk_q14 : (va_up (va_up (va_up (va_up (va_up (va_up (va_up (va_up (va_up (va_up (va_up (va_up (va_up (va_up K q1 101) q2 102) q3 103) q4 104) q5 105) q6 106) q7 108) q8 109) q9 110) q10 111) q11 112) q12 113) q13 114) q14 115) q14 = 115 := va_up_self _ _ _
  refine zp_7_15 (x := some q14) (r1 := (zur (znw (zur (znw (zur (znw (zur (znw (zur (znw (zur (znw (zur (znw (zur (znw (zur (znw (zur (znw (zur (znw (zur (znw (zur (znw (zur (znw r q1) 1 th 0 (some q1)) q2) 2 th 0 (some q2)) q3) 3 th 0 (some q3)) q4) 4 th 0 (some q4)) q5) 5 th 0 (some q5)) q6) 6 th 0 (some q6)) q7) 8 th 0 (some q7)) q8) 9 th 0 (some q8)) q9) 10 th 0 (some q9)) q10) 11 th 0 (some q10)) q11) 12 th 0 (some q11)) q12) 13 th 0 (some q12)) q13) 14 th 0 (some q13)) q14) 15 th 0 (some q14))) hx hb hts hi7 hown hK hC hk_th w19 hin2 rfl rfl dX7_init_123 (fun H locs hC => ?_)
  refine lv_aload_n hx hb dX7_init_126 rfl (lv_at hl 0 rfl) ?_
  refine lv_sipush (v := 2400) hx hb dX7_init_127 (by decide) ?_
  refine z_newai (Zn := fun q => (c, znw (zur (znw (zur (znw (zur (znw (zur (znw (zur (znw (zur (znw (zur (znw (zur (znw (zur (znw (zur (znw (zur (znw (zur (znw (zur (znw (zur (znw r q1) 1 th 0 (some q1)) q2) 2 th 0 (some q2)) q3) 3 th 0 (some q3)) q4) 4 th 0 (some q4)) q5) 5 th 0 (some q5)) q6) 6 th 0 (some q6)) q7) 8 th 0 (some q7)) q8) 9 th 0 (some q8)) q9) 10 th 0 (some q9)) q10) 11 th 0 (some q10)) q11) 12 th 0 (some q11)) q12) 13 th 0 (some q12)) q13) 14 th 0 (some q13)) q14) 15 th 0 (some q14)) q, o)) (lab := 116) (N' := 2400) hx hb w3 hK hG.1 hC (by decide) (by decide) (by decide) (Nat.le_of_ble_eq_true rfl) (Nat.le_of_ble_eq_true rfl) (fun q => by rw [zc_116]; rw [zi_znq]) (fun q => zOff.mnw) dX7_init_130 (fun q15 H hq_q15 hC => ?_)
  have n_q15 : th ≠ q15 := fun e => by rw [e] at hk_th; omega
  have hk_th : (va_up (va_up (va_up (va_up (va_up (va_up (va_up (va_up (va_up (va_up (va_up (va_up (va_up (va_up (va_up K q1 101) q2 102) q3 103) q4 104) q5 105) q6 106) q7 108) q8 109) q9 110) q10 111) q11 112) q12 113) q13 114) q14 115) q15 116) th = 7 := zup_old hq_q15 hk_th (by decide)
  have hk_q15 : (va_up (va_up (va_up (va_up (va_up (va_up (va_up (va_up (va_up (va_up (va_up (va_up (va_up (va_up (va_up K q1 101) q2 102) q3 103) q4 104) q5 105) q6 106) q7 108) q8 109) q9 110) q10 111) q11 112) q12 113) q13 114) q14 115) q15 116) q15 = 116 := va_up_self _ _ _
  refine zp_7_16 (x := some q15) (r1 := (zur (znw (zur (znw (zur (znw (zur (znw (zur (znw (zur (znw (zur (znw (zur (znw (zur (znw (zur (znw (zur (znw (zur (znw (zur (znw (zur (znw (zur (znw r q1) 1 th 0 (some q1)) q2) 2 th 0 (some q2)) q3) 3 th 0 (some q3)) q4) 4 th 0 (some q4)) q5) 5 th 0 (some q5)) q6) 6 th 0 (some q6)) q7) 8 th 0 (some q7)) q8) 9 th 0 (some q8)) q9) 10 th 0 (some q9)) q10) 11 th 0 (some q10)) q11) 12 th 0 (some q11)) q12) 13 th 0 (some q12)) q13) 14 th 0 (some q13)) q14) 15 th 0 (some q14)) q15) 16 th 0 (some q15))) hx hb hts hi7 hown hK hC hk_th w20 hin2 rfl rfl dX7_init_132 (fun H locs hC => ?_)
  refine lv_aload_n hx hb dX7_init_135 rfl (lv_at hl 0 rfl) ?_
  refine lv_sipush (v := 2400) hx hb dX7_init_136 (by decide) ?_
  refine z_newai (Zn := fun q => (c, znw (zur (znw (zur (znw (zur (znw (zur (znw (zur (znw (zur (znw (zur (znw (zur (znw (zur (znw (zur (znw (zur (znw (zur (znw (zur (znw (zur (znw (zur (znw r q1) 1 th 0 (some q1)) q2) 2 th 0 (some q2)) q3) 3 th 0 (some q3)) q4) 4 th 0 (some q4)) q5) 5 th 0 (some q5)) q6) 6 th 0 (some q6)) q7) 8 th 0 (some q7)) q8) 9 th 0 (some q8)) q9) 10 th 0 (some q9)) q10) 11 th 0 (some q10)) q11) 12 th 0 (some q11)) q12) 13 th 0 (some q12)) q13) 14 th 0 (some q13)) q14) 15 th 0 (some q14)) q15) 16 th 0 (some q15)) q, o)) (lab := 117) (N' := 2400) hx hb w3 hK hG.1 hC (by decide) (by decide) (by decide) (Nat.le_of_ble_eq_true rfl) (Nat.le_of_ble_eq_true rfl) (fun q => by rw [zc_117]; rw [zi_znq]) (fun q => zOff.mnw) dX7_init_139 (fun q16 H hq_q16 hC => ?_)
  have n_q16 : th ≠ q16 := fun e => by rw [e] at hk_th; omega
  have hk_th : (va_up (va_up (va_up (va_up (va_up (va_up (va_up (va_up (va_up (va_up (va_up (va_up (va_up (va_up (va_up (va_up K q1 101) q2 102) q3 103) q4 104) q5 105) q6 106) q7 108) q8 109) q9 110) q10 111) q11 112) q12 113) q13 114) q14 115) q15 116) q16 117) th = 7 := zup_old hq_q16 hk_th (by decide)
  have hk_q16 : (va_up (va_up (va_up (va_up (va_up (va_up (va_up (va_up (va_up (va_up (va_up (va_up (va_up (va_up (va_up (va_up K q1 101) q2 102) q3 103) q4 104) q5 105) q6 106) q7 108) q8 109) q9 110) q10 111) q11 112) q12 113) q13 114) q14 115) q15 116) q16 117) q16 = 117 := va_up_self _ _ _
  refine zp_7_17 (x := some q16) (r1 := (zur (znw (zur (znw (zur (znw (zur (znw (zur (znw (zur (znw (zur (znw (zur (znw (zur (znw (zur (znw (zur (znw (zur (znw (zur (znw (zur (znw (zur (znw (zur (znw r q1) 1 th 0 (some q1)) q2) 2 th 0 (some q2)) q3) 3 th 0 (some q3)) q4) 4 th 0 (some q4)) q5) 5 th 0 (some q5)) q6) 6 th 0 (some q6)) q7) 8 th 0 (some q7)) q8) 9 th 0 (some q8)) q9) 10 th 0 (some q9)) q10) 11 th 0 (some q10)) q11) 12 th 0 (some q11)) q12) 13 th 0 (some q12)) q13) 14 th 0 (some q13)) q14) 15 th 0 (some q14)) q15) 16 th 0 (some q15)) q16) 17 th 0 (some q16))) hx hb hts hi7 hown hK hC hk_th w21 hin2 rfl rfl dX7_init_141 (fun H locs hC => ?_)
  refine lv_aload_n hx hb dX7_init_144 rfl (lv_at hl 0 rfl) ?_
  refine lv_sipush (v := 200) hx hb dX7_init_145 (by decide) ?_
  refine z_newai (Zn := fun q => (c, znw (zur (znw (zur (znw (zur (znw (zur (znw (zur (znw (zur (znw (zur (znw (zur (znw (zur (znw (zur (znw (zur (znw (zur (znw (zur (znw (zur (znw (zur (znw (zur (znw r q1) 1 th 0 (some q1)) q2) 2 th 0 (some q2)) q3) 3 th 0 (some q3)) q4) 4 th 0 (some q4)) q5) 5 th 0 (some q5)) q6) 6 th 0 (some q6)) q7) 8 th 0 (some q7)) q8) 9 th 0 (some q8)) q9) 10 th 0 (some q9)) q10) 11 th 0 (some q10)) q11) 12 th 0 (some q11)) q12) 13 th 0 (some q12)) q13) 14 th 0 (some q13)) q14) 15 th 0 (some q14)) q15) 16 th 0 (some q15)) q16) 17 th 0 (some q16)) q, o)) (lab := 118) (N' := 200) hx hb w3 hK hG.1 hC (by decide) (by decide) (by decide) (Nat.le_of_ble_eq_true rfl) (Nat.le_of_ble_eq_true rfl) (fun q => by rw [zc_118]; rw [zi_znq]) (fun q => zOff.mnw) dX7_init_148 (fun q17 H hq_q17 hC => ?_)
  have n_q17 : th ≠ q17 := fun e => by rw [e] at hk_th; omega
  have hk_th : (va_up (va_up (va_up (va_up (va_up (va_up (va_up (va_up (va_up (va_up (va_up (va_up (va_up (va_up (va_up (va_up (va_up K q1 101) q2 102) q3 103) q4 104) q5 105) q6 106) q7 108) q8 109) q9 110) q10 111) q11 112) q12 113) q13 114) q14 115) q15 116) q16 117) q17 118) th = 7 := zup_old hq_q17 hk_th (by decide)
  have hk_q17 : (va_up (va_up (va_up (va_up (va_up (va_up (va_up (va_up (va_up (va_up (va_up (va_up (va_up (va_up (va_up (va_up (va_up K q1 101) q2 102) q3 103) q4 104) q5 105) q6 106) q7 108) q8 109) q9 110) q10 111) q11 112) q12 113) q13 114) q14 115) q15 116) q16 117) q17 118) q17 = 118 := va_up_self _ _ _
  refine zp_7_18 (x := some q17) (r1 := (zur (znw (zur (znw (zur (znw (zur (znw (zur (znw (zur (znw (zur (znw (zur (znw (zur (znw (zur (znw (zur (znw (zur (znw (zur (znw (zur (znw (zur (znw (zur (znw (zur (znw r q1) 1 th 0 (some q1)) q2) 2 th 0 (some q2)) q3) 3 th 0 (some q3)) q4) 4 th 0 (some q4)) q5) 5 th 0 (some q5)) q6) 6 th 0 (some q6)) q7) 8 th 0 (some q7)) q8) 9 th 0 (some q8)) q9) 10 th 0 (some q9)) q10) 11 th 0 (some q10)) q11) 12 th 0 (some q11)) q12) 13 th 0 (some q12)) q13) 14 th 0 (some q13)) q14) 15 th 0 (some q14)) q15) 16 th 0 (some q15)) q16) 17 th 0 (some q16)) q17) 18 th 0 (some q17))) hx hb hts hi7 hown hK hC hk_th w22 hin2 rfl rfl dX7_init_150 (fun H locs hC => ?_)
  refine lv_aload_n hx hb dX7_init_153 rfl (lv_at hl 0 rfl) ?_
  refine lv_sipush (v := 200) hx hb dX7_init_154 (by decide) ?_
  refine z_newaz (Zn := fun q => (c, znw (zur (znw (zur (znw (zur (znw (zur (znw (zur (znw (zur (znw (zur (znw (zur (znw (zur (znw (zur (znw (zur (znw (zur (znw (zur (znw (zur (znw (zur (znw (zur (znw (zur (znw r q1) 1 th 0 (some q1)) q2) 2 th 0 (some q2)) q3) 3 th 0 (some q3)) q4) 4 th 0 (some q4)) q5) 5 th 0 (some q5)) q6) 6 th 0 (some q6)) q7) 8 th 0 (some q7)) q8) 9 th 0 (some q8)) q9) 10 th 0 (some q9)) q10) 11 th 0 (some q10)) q11) 12 th 0 (some q11)) q12) 13 th 0 (some q12)) q13) 14 th 0 (some q13)) q14) 15 th 0 (some q14)) q15) 16 th 0 (some q15)) q16) 17 th 0 (some q16)) q17) 18 th 0 (some q17)) q, o)) (lab := 119) (N' := 200) hx hb w9 hK hG.1 hC (by decide) (by decide) (by decide) (Nat.le_of_ble_eq_true rfl) (Nat.le_of_ble_eq_true rfl) (fun q => by rw [zc_119]; rw [zi_znq]) (fun q => zOff.mnw) dX7_init_157 (fun q18 H hq_q18 hC => ?_)
  have n_q18 : th ≠ q18 := fun e => by rw [e] at hk_th; omega
  have hk_th : (va_up (va_up (va_up (va_up (va_up (va_up (va_up (va_up (va_up (va_up (va_up (va_up (va_up (va_up (va_up (va_up (va_up (va_up K q1 101) q2 102) q3 103) q4 104) q5 105) q6 106) q7 108) q8 109) q9 110) q10 111) q11 112) q12 113) q13 114) q14 115) q15 116) q16 117) q17 118) q18 119) th = 7 := zup_old hq_q18 hk_th (by decide)
  have hk_q18 : (va_up (va_up (va_up (va_up (va_up (va_up (va_up (va_up (va_up (va_up (va_up (va_up (va_up (va_up (va_up (va_up (va_up (va_up K q1 101) q2 102) q3 103) q4 104) q5 105) q6 106) q7 108) q8 109) q9 110) q10 111) q11 112) q12 113) q13 114) q14 115) q15 116) q16 117) q17 118) q18 119) q18 = 119 := va_up_self _ _ _
  refine zp_7_19 (x := some q18) (r1 := (zur (znw (zur (znw (zur (znw (zur (znw (zur (znw (zur (znw (zur (znw (zur (znw (zur (znw (zur (znw (zur (znw (zur (znw (zur (znw (zur (znw (zur (znw (zur (znw (zur (znw (zur (znw r q1) 1 th 0 (some q1)) q2) 2 th 0 (some q2)) q3) 3 th 0 (some q3)) q4) 4 th 0 (some q4)) q5) 5 th 0 (some q5)) q6) 6 th 0 (some q6)) q7) 8 th 0 (some q7)) q8) 9 th 0 (some q8)) q9) 10 th 0 (some q9)) q10) 11 th 0 (some q10)) q11) 12 th 0 (some q11)) q12) 13 th 0 (some q12)) q13) 14 th 0 (some q13)) q14) 15 th 0 (some q14)) q15) 16 th 0 (some q15)) q16) 17 th 0 (some q16)) q17) 18 th 0 (some q17)) q18) 19 th 0 (some q18))) hx hb hts hi7 hown hK hC hk_th w23 hin2 rfl rfl dX7_init_159 (fun H locs hC => ?_)
  refine lv_aload_n hx hb dX7_init_162 rfl (lv_at hl 0 rfl) ?_
  refine lv_sipush (v := 200) hx hb dX7_init_163 (by decide) ?_
  refine z_newaz (Zn := fun q => (c, znw (zur (znw (zur (znw (zur (znw (zur (znw (zur (znw (zur (znw (zur (znw (zur (znw (zur (znw (zur (znw (zur (znw (zur (znw (zur (znw (zur (znw (zur (znw (zur (znw (zur (znw (zur (znw r q1) 1 th 0 (some q1)) q2) 2 th 0 (some q2)) q3) 3 th 0 (some q3)) q4) 4 th 0 (some q4)) q5) 5 th 0 (some q5)) q6) 6 th 0 (some q6)) q7) 8 th 0 (some q7)) q8) 9 th 0 (some q8)) q9) 10 th 0 (some q9)) q10) 11 th 0 (some q10)) q11) 12 th 0 (some q11)) q12) 13 th 0 (some q12)) q13) 14 th 0 (some q13)) q14) 15 th 0 (some q14)) q15) 16 th 0 (some q15)) q16) 17 th 0 (some q16)) q17) 18 th 0 (some q17)) q18) 19 th 0 (some q18)) q, o)) (lab := 120) (N' := 200) hx hb w9 hK hG.1 hC (by decide) (by decide) (by decide) (Nat.le_of_ble_eq_true rfl) (Nat.le_of_ble_eq_true rfl) (fun q => by rw [zc_120]; rw [zi_znq]) (fun q => zOff.mnw) dX7_init_166 (fun q19 H hq_q19 hC => ?_)
  have n_q19 : th ≠ q19 := fun e => by rw [e] at hk_th; omega
  have hk_th : (va_up (va_up (va_up (va_up (va_up (va_up (va_up (va_up (va_up (va_up (va_up (va_up (va_up (va_up (va_up (va_up (va_up (va_up (va_up K q1 101) q2 102) q3 103) q4 104) q5 105) q6 106) q7 108) q8 109) q9 110) q10 111) q11 112) q12 113) q13 114) q14 115) q15 116) q16 117) q17 118) q18 119) q19 120) th = 7 := zup_old hq_q19 hk_th (by decide)
  have hk_q19 : (va_up (va_up (va_up (va_up (va_up (va_up (va_up (va_up (va_up (va_up (va_up (va_up (va_up (va_up (va_up (va_up (va_up (va_up (va_up K q1 101) q2 102) q3 103) q4 104) q5 105) q6 106) q7 108) q8 109) q9 110) q10 111) q11 112) q12 113) q13 114) q14 115) q15 116) q16 117) q17 118) q18 119) q19 120) q19 = 120 := va_up_self _ _ _
  refine zp_7_20 (x := some q19) (r1 := (zur (znw (zur (znw (zur (znw (zur (znw (zur (znw (zur (znw (zur (znw (zur (znw (zur (znw (zur (znw (zur (znw (zur (znw (zur (znw (zur (znw (zur (znw (zur (znw (zur (znw (zur (znw (zur (znw r q1) 1 th 0 (some q1)) q2) 2 th 0 (some q2)) q3) 3 th 0 (some q3)) q4) 4 th 0 (some q4)) q5) 5 th 0 (some q5)) q6) 6 th 0 (some q6)) q7) 8 th 0 (some q7)) q8) 9 th 0 (some q8)) q9) 10 th 0 (some q9)) q10) 11 th 0 (some q10)) q11) 12 th 0 (some q11)) q12) 13 th 0 (some q12)) q13) 14 th 0 (some q13)) q14) 15 th 0 (some q14)) q15) 16 th 0 (some q15)) q16) 17 th 0 (some q16)) q17) 18 th 0 (some q17)) q18) 19 th 0 (some q18)) q19) 20 th 0 (some q19))) hx hb hts hi7 hown hK hC hk_th w24 hin2 rfl rfl dX7_init_168 (fun H locs hC => ?_)
  refine lv_aload_n hx hb dX7_init_171 rfl (lv_at hl 0 rfl) ?_
  refine lv_sipush (v := 200) hx hb dX7_init_172 (by decide) ?_
  refine z_newaz (Zn := fun q => (c, znw (zur (znw (zur (znw (zur (znw (zur (znw (zur (znw (zur (znw (zur (znw (zur (znw (zur (znw (zur (znw (zur (znw (zur (znw (zur (znw (zur (znw (zur (znw (zur (znw (zur (znw (zur (znw (zur (znw r q1) 1 th 0 (some q1)) q2) 2 th 0 (some q2)) q3) 3 th 0 (some q3)) q4) 4 th 0 (some q4)) q5) 5 th 0 (some q5)) q6) 6 th 0 (some q6)) q7) 8 th 0 (some q7)) q8) 9 th 0 (some q8)) q9) 10 th 0 (some q9)) q10) 11 th 0 (some q10)) q11) 12 th 0 (some q11)) q12) 13 th 0 (some q12)) q13) 14 th 0 (some q13)) q14) 15 th 0 (some q14)) q15) 16 th 0 (some q15)) q16) 17 th 0 (some q16)) q17) 18 th 0 (some q17)) q18) 19 th 0 (some q18)) q19) 20 th 0 (some q19)) q, o)) (lab := 121) (N' := 200) hx hb w9 hK hG.1 hC (by decide) (by decide) (by decide) (Nat.le_of_ble_eq_true rfl) (Nat.le_of_ble_eq_true rfl) (fun q => by rw [zc_121]; rw [zi_znq]) (fun q => zOff.mnw) dX7_init_175 (fun q20 H hq_q20 hC => ?_)
  have n_q20 : th ≠ q20 := fun e => by rw [e] at hk_th; omega
  have hk_th : (va_up (va_up (va_up (va_up (va_up (va_up (va_up (va_up (va_up (va_up (va_up (va_up (va_up (va_up (va_up (va_up (va_up (va_up (va_up (va_up K q1 101) q2 102) q3 103) q4 104) q5 105) q6 106) q7 108) q8 109) q9 110) q10 111) q11 112) q12 113) q13 114) q14 115) q15 116) q16 117) q17 118) q18 119) q19 120) q20 121) th = 7 := zup_old hq_q20 hk_th (by decide)
  have hk_q20 : (va_up (va_up (va_up (va_up (va_up (va_up (va_up (va_up (va_up (va_up (va_up (va_up (va_up (va_up (va_up (va_up (va_up (va_up (va_up (va_up K q1 101) q2 102) q3 103) q4 104) q5 105) q6 106) q7 108) q8 109) q9 110) q10 111) q11 112) q12 113) q13 114) q14 115) q15 116) q16 117) q17 118) q18 119) q19 120) q20 121) q20 = 121 := va_up_self _ _ _
  refine zp_7_21 (x := some q20) (r1 := (zur (znw (zur (znw (zur (znw (zur (znw (zur (znw (zur (znw (zur (znw (zur (znw (zur (znw (zur (znw (zur (znw (zur (znw (zur (znw (zur (znw (zur (znw (zur (znw (zur (znw (zur (znw (zur (znw (zur (znw r q1) 1 th 0 (some q1)) q2) 2 th 0 (some q2)) q3) 3 th 0 (some q3)) q4) 4 th 0 (some q4)) q5) 5 th 0 (some q5)) q6) 6 th 0 (some q6)) q7) 8 th 0 (some q7)) q8) 9 th 0 (some q8)) q9) 10 th 0 (some q9)) q10) 11 th 0 (some q10)) q11) 12 th 0 (some q11)) q12) 13 th 0 (some q12)) q13) 14 th 0 (some q13)) q14) 15 th 0 (some q14)) q15) 16 th 0 (some q15)) q16) 17 th 0 (some q16)) q17) 18 th 0 (some q17)) q18) 19 th 0 (some q18)) q19) 20 th 0 (some q19)) q20) 21 th 0 (some q20))) hx hb hts hi7 hown hK hC hk_th w25 hin2 rfl rfl dX7_init_177 (fun H locs hC => ?_)
  refine lv_aload_n hx hb dX7_init_180 rfl (lv_at hl 0 rfl) ?_
  refine lv_sipush (v := 200) hx hb dX7_init_181 (by decide) ?_
  refine z_newaz (Zn := fun q => (c, znw (zur (znw (zur (znw (zur (znw (zur (znw (zur (znw (zur (znw (zur (znw (zur (znw (zur (znw (zur (znw (zur (znw (zur (znw (zur (znw (zur (znw (zur (znw (zur (znw (zur (znw (zur (znw (zur (znw (zur (znw r q1) 1 th 0 (some q1)) q2) 2 th 0 (some q2)) q3) 3 th 0 (some q3)) q4) 4 th 0 (some q4)) q5) 5 th 0 (some q5)) q6) 6 th 0 (some q6)) q7) 8 th 0 (some q7)) q8) 9 th 0 (some q8)) q9) 10 th 0 (some q9)) q10) 11 th 0 (some q10)) q11) 12 th 0 (some q11)) q12) 13 th 0 (some q12)) q13) 14 th 0 (some q13)) q14) 15 th 0 (some q14)) q15) 16 th 0 (some q15)) q16) 17 th 0 (some q16)) q17) 18 th 0 (some q17)) q18) 19 th 0 (some q18)) q19) 20 th 0 (some q19)) q20) 21 th 0 (some q20)) q, o)) (lab := 122) (N' := 200) hx hb w9 hK hG.1 hC (by decide) (by decide) (by decide) (Nat.le_of_ble_eq_true rfl) (Nat.le_of_ble_eq_true rfl) (fun q => by rw [zc_122]; rw [zi_znq]) (fun q => zOff.mnw) dX7_init_184 (fun q21 H hq_q21 hC => ?_)
  have n_q21 : th ≠ q21 := fun e => by rw [e] at hk_th; omega
  have hk_th : (va_up (va_up (va_up (va_up (va_up (va_up (va_up (va_up (va_up (va_up (va_up (va_up (va_up (va_up (va_up (va_up (va_up (va_up (va_up (va_up (va_up K q1 101) q2 102) q3 103) q4 104) q5 105) q6 106) q7 108) q8 109) q9 110) q10 111) q11 112) q12 113) q13 114) q14 115) q15 116) q16 117) q17 118) q18 119) q19 120) q20 121) q21 122) th = 7 := zup_old hq_q21 hk_th (by decide)
  have hk_q21 : (va_up (va_up (va_up (va_up (va_up (va_up (va_up (va_up (va_up (va_up (va_up (va_up (va_up (va_up (va_up (va_up (va_up (va_up (va_up (va_up (va_up K q1 101) q2 102) q3 103) q4 104) q5 105) q6 106) q7 108) q8 109) q9 110) q10 111) q11 112) q12 113) q13 114) q14 115) q15 116) q16 117) q17 118) q18 119) q19 120) q20 121) q21 122) q21 = 122 := va_up_self _ _ _
  refine zp_7_22 (x := some q21) (r1 := (zur (znw (zur (znw (zur (znw (zur (znw (zur (znw (zur (znw (zur (znw (zur (znw (zur (znw (zur (znw (zur (znw (zur (znw (zur (znw (zur (znw (zur (znw (zur (znw (zur (znw (zur (znw (zur (znw (zur (znw (zur (znw r q1) 1 th 0 (some q1)) q2) 2 th 0 (some q2)) q3) 3 th 0 (some q3)) q4) 4 th 0 (some q4)) q5) 5 th 0 (some q5)) q6) 6 th 0 (some q6)) q7) 8 th 0 (some q7)) q8) 9 th 0 (some q8)) q9) 10 th 0 (some q9)) q10) 11 th 0 (some q10)) q11) 12 th 0 (some q11)) q12) 13 th 0 (some q12)) q13) 14 th 0 (some q13)) q14) 15 th 0 (some q14)) q15) 16 th 0 (some q15)) q16) 17 th 0 (some q16)) q17) 18 th 0 (some q17)) q18) 19 th 0 (some q18)) q19) 20 th 0 (some q19)) q20) 21 th 0 (some q20)) q21) 22 th 0 (some q21))) hx hb hts hi7 hown hK hC hk_th w26 hin2 rfl rfl dX7_init_186 (fun H locs hC => ?_)
  refine lv_aload_n hx hb dX7_init_189 rfl (lv_at hl 0 rfl) ?_
  refine lv_sipush (v := 200) hx hb dX7_init_190 (by decide) ?_
  refine z_newaz (Zn := fun q => (c, znw (zur (znw (zur (znw (zur (znw (zur (znw (zur (znw (zur (znw (zur (znw (zur (znw (zur (znw (zur (znw (zur (znw (zur (znw (zur (znw (zur (znw (zur (znw (zur (znw (zur (znw (zur (znw (zur (znw (zur (znw (zur (znw r q1) 1 th 0 (some q1)) q2) 2 th 0 (some q2)) q3) 3 th 0 (some q3)) q4) 4 th 0 (some q4)) q5) 5 th 0 (some q5)) q6) 6 th 0 (some q6)) q7) 8 th 0 (some q7)) q8) 9 th 0 (some q8)) q9) 10 th 0 (some q9)) q10) 11 th 0 (some q10)) q11) 12 th 0 (some q11)) q12) 13 th 0 (some q12)) q13) 14 th 0 (some q13)) q14) 15 th 0 (some q14)) q15) 16 th 0 (some q15)) q16) 17 th 0 (some q16)) q17) 18 th 0 (some q17)) q18) 19 th 0 (some q18)) q19) 20 th 0 (some q19)) q20) 21 th 0 (some q20)) q21) 22 th 0 (some q21)) q, o)) (lab := 123) (N' := 200) hx hb w9 hK hG.1 hC (by decide) (by decide) (by decide) (Nat.le_of_ble_eq_true rfl) (Nat.le_of_ble_eq_true rfl) (fun q => by rw [zc_123]; rw [zi_znq]) (fun q => zOff.mnw) dX7_init_193 (fun q22 H hq_q22 hC => ?_)
  have n_q22 : th ≠ q22 := fun e => by rw [e] at hk_th; omega
  have hk_th : (va_up (va_up (va_up (va_up (va_up (va_up (va_up (va_up (va_up (va_up (va_up (va_up (va_up (va_up (va_up (va_up (va_up (va_up (va_up (va_up (va_up (va_up K q1 101) q2 102) q3 103) q4 104) q5 105) q6 106) q7 108) q8 109) q9 110) q10 111) q11 112) q12 113) q13 114) q14 115) q15 116) q16 117) q17 118) q18 119) q19 120) q20 121) q21 122) q22 123) th = 7 := zup_old hq_q22 hk_th (by decide)
  have hk_q22 : (va_up (va_up (va_up (va_up (va_up (va_up (va_up (va_up (va_up (va_up (va_up (va_up (va_up (va_up (va_up (va_up (va_up (va_up (va_up (va_up (va_up (va_up K q1 101) q2 102) q3 103) q4 104) q5 105) q6 106) q7 108) q8 109) q9 110) q10 111) q11 112) q12 113) q13 114) q14 115) q15 116) q16 117) q17 118) q18 119) q19 120) q20 121) q21 122) q22 123) q22 = 123 := va_up_self _ _ _
  refine zp_7_23 (x := some q22) (r1 := (zur (znw (zur (znw (zur (znw (zur (znw (zur (znw (zur (znw (zur (znw (zur (znw (zur (znw (zur (znw (zur (znw (zur (znw (zur (znw (zur (znw (zur (znw (zur (znw (zur (znw (zur (znw (zur (znw (zur (znw (zur (znw (zur (znw r q1) 1 th 0 (some q1)) q2) 2 th 0 (some q2)) q3) 3 th 0 (some q3)) q4) 4 th 0 (some q4)) q5) 5 th 0 (some q5)) q6) 6 th 0 (some q6)) q7) 8 th 0 (some q7)) q8) 9 th 0 (some q8)) q9) 10 th 0 (some q9)) q10) 11 th 0 (some q10)) q11) 12 th 0 (some q11)) q12) 13 th 0 (some q12)) q13) 14 th 0 (some q13)) q14) 15 th 0 (some q14)) q15) 16 th 0 (some q15)) q16) 17 th 0 (some q16)) q17) 18 th 0 (some q17)) q18) 19 th 0 (some q18)) q19) 20 th 0 (some q19)) q20) 21 th 0 (some q20)) q21) 22 th 0 (some q21)) q22) 23 th 0 (some q22))) hx hb hts hi7 hown hK hC hk_th w27 hin2 rfl rfl dX7_init_195 (fun H locs hC => ?_)
  refine lv_aload_n hx hb dX7_init_198 rfl (lv_at hl 0 rfl) ?_
  refine lv_sipush (v := 200) hx hb dX7_init_199 (by decide) ?_
  refine z_newaz (Zn := fun q => (c, znw (zur (znw (zur (znw (zur (znw (zur (znw (zur (znw (zur (znw (zur (znw (zur (znw (zur (znw (zur (znw (zur (znw (zur (znw (zur (znw (zur (znw (zur (znw (zur (znw (zur (znw (zur (znw (zur (znw (zur (znw (zur (znw (zur (znw r q1) 1 th 0 (some q1)) q2) 2 th 0 (some q2)) q3) 3 th 0 (some q3)) q4) 4 th 0 (some q4)) q5) 5 th 0 (some q5)) q6) 6 th 0 (some q6)) q7) 8 th 0 (some q7)) q8) 9 th 0 (some q8)) q9) 10 th 0 (some q9)) q10) 11 th 0 (some q10)) q11) 12 th 0 (some q11)) q12) 13 th 0 (some q12)) q13) 14 th 0 (some q13)) q14) 15 th 0 (some q14)) q15) 16 th 0 (some q15)) q16) 17 th 0 (some q16)) q17) 18 th 0 (some q17)) q18) 19 th 0 (some q18)) q19) 20 th 0 (some q19)) q20) 21 th 0 (some q20)) q21) 22 th 0 (some q21)) q22) 23 th 0 (some q22)) q, o)) (lab := 124) (N' := 200) hx hb w9 hK hG.1 hC (by decide) (by decide) (by decide) (Nat.le_of_ble_eq_true rfl) (Nat.le_of_ble_eq_true rfl) (fun q => by rw [zc_124]; rw [zi_znq]) (fun q => zOff.mnw) dX7_init_202 (fun q23 H hq_q23 hC => ?_)
  have n_q23 : th ≠ q23 := fun e => by rw [e] at hk_th; omega
  have hk_th : (va_up (va_up (va_up (va_up (va_up (va_up (va_up (va_up (va_up (va_up (va_up (va_up (va_up (va_up (va_up (va_up (va_up (va_up (va_up (va_up (va_up (va_up (va_up K q1 101) q2 102) q3 103) q4 104) q5 105) q6 106) q7 108) q8 109) q9 110) q10 111) q11 112) q12 113) q13 114) q14 115) q15 116) q16 117) q17 118) q18 119) q19 120) q20 121) q21 122) q22 123) q23 124) th = 7 := zup_old hq_q23 hk_th (by decide)
  have hk_q23 : (va_up (va_up (va_up (va_up (va_up (va_up (va_up (va_up (va_up (va_up (va_up (va_up (va_up (va_up (va_up (va_up (va_up (va_up (va_up (va_up (va_up (va_up (va_up K q1 101) q2 102) q3 103) q4 104) q5 105) q6 106) q7 108) q8 109) q9 110) q10 111) q11 112) q12 113) q13 114) q14 115) q15 116) q16 117) q17 118) q18 119) q19 120) q20 121) q21 122) q22 123) q23 124) q23 = 124 := va_up_self _ _ _
  refine zp_7_24 (x := some q23) (r1 := (zur (znw (zur (znw (zur (znw (zur (znw (zur (znw (zur (znw (zur (znw (zur (znw (zur (znw (zur (znw (zur (znw (zur (znw (zur (znw (zur (znw (zur (znw (zur (znw (zur (znw (zur (znw (zur (znw (zur (znw (zur (znw (zur (znw (zur (znw r q1) 1 th 0 (some q1)) q2) 2 th 0 (some q2)) q3) 3 th 0 (some q3)) q4) 4 th 0 (some q4)) q5) 5 th 0 (some q5)) q6) 6 th 0 (some q6)) q7) 8 th 0 (some q7)) q8) 9 th 0 (some q8)) q9) 10 th 0 (some q9)) q10) 11 th 0 (some q10)) q11) 12 th 0 (some q11)) q12) 13 th 0 (some q12)) q13) 14 th 0 (some q13)) q14) 15 th 0 (some q14)) q15) 16 th 0 (some q15)) q16) 17 th 0 (some q16)) q17) 18 th 0 (some q17)) q18) 19 th 0 (some q18)) q19) 20 th 0 (some q19)) q20) 21 th 0 (some q20)) q21) 22 th 0 (some q21)) q22) 23 th 0 (some q22)) q23) 24 th 0 (some q23))) hx hb hts hi7 hown hK hC hk_th w28 hin2 rfl rfl dX7_init_204 (fun H locs hC => ?_)
  refine lv_aload_n hx hb dX7_init_207 rfl (lv_at hl 0 rfl) ?_
  refine lv_sipush (v := 200) hx hb dX7_init_208 (by decide) ?_
  refine z_newaz (Zn := fun q => (c, znw (zur (znw (zur (znw (zur (znw (zur (znw (zur (znw (zur (znw (zur (znw (zur (znw (zur (znw (zur (znw (zur (znw (zur (znw (zur (znw (zur (znw (zur (znw (zur (znw (zur (znw (zur (znw (zur (znw (zur (znw (zur (znw (zur (znw (zur (znw r q1) 1 th 0 (some q1)) q2) 2 th 0 (some q2)) q3) 3 th 0 (some q3)) q4) 4 th 0 (some q4)) q5) 5 th 0 (some q5)) q6) 6 th 0 (some q6)) q7) 8 th 0 (some q7)) q8) 9 th 0 (some q8)) q9) 10 th 0 (some q9)) q10) 11 th 0 (some q10)) q11) 12 th 0 (some q11)) q12) 13 th 0 (some q12)) q13) 14 th 0 (some q13)) q14) 15 th 0 (some q14)) q15) 16 th 0 (some q15)) q16) 17 th 0 (some q16)) q17) 18 th 0 (some q17)) q18) 19 th 0 (some q18)) q19) 20 th 0 (some q19)) q20) 21 th 0 (some q20)) q21) 22 th 0 (some q21)) q22) 23 th 0 (some q22)) q23) 24 th 0 (some q23)) q, o)) (lab := 125) (N' := 200) hx hb w9 hK hG.1 hC (by decide) (by decide) (by decide) (Nat.le_of_ble_eq_true rfl) (Nat.le_of_ble_eq_true rfl) (fun q => by rw [zc_125]; rw [zi_znq]) (fun q => zOff.mnw) dX7_init_211 (fun q24 H hq_q24 hC => ?_)
  have n_q24 : th ≠ q24 := fun e => by rw [e] at hk_th; omega
  have hk_th : (va_up (va_up (va_up (va_up (va_up (va_up (va_up (va_up (va_up (va_up (va_up (va_up (va_up (va_up (va_up (va_up (va_up (va_up (va_up (va_up (va_up (va_up (va_up (va_up K q1 101) q2 102) q3 103) q4 104) q5 105) q6 106) q7 108) q8 109) q9 110) q10 111) q11 112) q12 113) q13 114) q14 115) q15 116) q16 117) q17 118) q18 119) q19 120) q20 121) q21 122) q22 123) q23 124) q24 125) th = 7 := zup_old hq_q24 hk_th (by decide)
  have hk_q24 : (va_up (va_up (va_up (va_up (va_up (va_up (va_up (va_up (va_up (va_up (va_up (va_up (va_up (va_up (va_up (va_up (va_up (va_up (va_up (va_up (va_up (va_up (va_up (va_up K q1 101) q2 102) q3 103) q4 104) q5 105) q6 106) q7 108) q8 109) q9 110) q10 111) q11 112) q12 113) q13 114) q14 115) q15 116) q16 117) q17 118) q18 119) q19 120) q20 121) q21 122) q22 123) q23 124) q24 125) q24 = 125 := va_up_self _ _ _
  refine zp_7_25 (x := some q24) (r1 := (zur (znw (zur (znw (zur (znw (zur (znw (zur (znw (zur (znw (zur (znw (zur (znw (zur (znw (zur (znw (zur (znw (zur (znw (zur (znw (zur (znw (zur (znw (zur (znw (zur (znw (zur (znw (zur (znw (zur (znw (zur (znw (zur (znw (zur (znw (zur (znw r q1) 1 th 0 (some q1)) q2) 2 th 0 (some q2)) q3) 3 th 0 (some q3)) q4) 4 th 0 (some q4)) q5) 5 th 0 (some q5)) q6) 6 th 0 (some q6)) q7) 8 th 0 (some q7)) q8) 9 th 0 (some q8)) q9) 10 th 0 (some q9)) q10) 11 th 0 (some q10)) q11) 12 th 0 (some q11)) q12) 13 th 0 (some q12)) q13) 14 th 0 (some q13)) q14) 15 th 0 (some q14)) q15) 16 th 0 (some q15)) q16) 17 th 0 (some q16)) q17) 18 th 0 (some q17)) q18) 19 th 0 (some q18)) q19) 20 th 0 (some q19)) q20) 21 th 0 (some q20)) q21) 22 th 0 (some q21)) q22) 23 th 0 (some q22)) q23) 24 th 0 (some q23)) q24) 25 th 0 (some q24))) hx hb hts hi7 hown hK hC hk_th w29 hin2 rfl rfl dX7_init_213 (fun H locs hC => ?_)
  refine lv_aload_n hx hb dX7_init_216 rfl (lv_at hl 0 rfl) ?_
  refine lv_sipush (v := 200) hx hb dX7_init_217 (by decide) ?_
  refine z_newaz (Zn := fun q => (c, znw (zur (znw (zur (znw (zur (znw (zur (znw (zur (znw (zur (znw (zur (znw (zur (znw (zur (znw (zur (znw (zur (znw (zur (znw (zur (znw (zur (znw (zur (znw (zur (znw (zur (znw (zur (znw (zur (znw (zur (znw (zur (znw (zur (znw (zur (znw (zur (znw r q1) 1 th 0 (some q1)) q2) 2 th 0 (some q2)) q3) 3 th 0 (some q3)) q4) 4 th 0 (some q4)) q5) 5 th 0 (some q5)) q6) 6 th 0 (some q6)) q7) 8 th 0 (some q7)) q8) 9 th 0 (some q8)) q9) 10 th 0 (some q9)) q10) 11 th 0 (some q10)) q11) 12 th 0 (some q11)) q12) 13 th 0 (some q12)) q13) 14 th 0 (some q13)) q14) 15 th 0 (some q14)) q15) 16 th 0 (some q15)) q16) 17 th 0 (some q16)) q17) 18 th 0 (some q17)) q18) 19 th 0 (some q18)) q19) 20 th 0 (some q19)) q20) 21 th 0 (some q20)) q21) 22 th 0 (some q21)) q22) 23 th 0 (some q22)) q23) 24 th 0 (some q23)) q24) 25 th 0 (some q24)) q, o)) (lab := 126) (N' := 200) hx hb w9 hK hG.1 hC (by decide) (by decide) (by decide) (Nat.le_of_ble_eq_true rfl) (Nat.le_of_ble_eq_true rfl) (fun q => by rw [zc_126]; rw [zi_znq]) (fun q => zOff.mnw) dX7_init_220 (fun q25 H hq_q25 hC => ?_)
  have n_q25 : th ≠ q25 := fun e => by rw [e] at hk_th; omega
  have hk_th : (va_up (va_up (va_up (va_up (va_up (va_up (va_up (va_up (va_up (va_up (va_up (va_up (va_up (va_up (va_up (va_up (va_up (va_up (va_up (va_up (va_up (va_up (va_up (va_up (va_up K q1 101) q2 102) q3 103) q4 104) q5 105) q6 106) q7 108) q8 109) q9 110) q10 111) q11 112) q12 113) q13 114) q14 115) q15 116) q16 117) q17 118) q18 119) q19 120) q20 121) q21 122) q22 123) q23 124) q24 125) q25 126) th = 7 := zup_old hq_q25 hk_th (by decide)
  have hk_q25 : (va_up (va_up (va_up (va_up (va_up (va_up (va_up (va_up (va_up (va_up (va_up (va_up (va_up (va_up (va_up (va_up (va_up (va_up (va_up (va_up (va_up (va_up (va_up (va_up (va_up K q1 101) q2 102) q3 103) q4 104) q5 105) q6 106) q7 108) q8 109) q9 110) q10 111) q11 112) q12 113) q13 114) q14 115) q15 116) q16 117) q17 118) q18 119) q19 120) q20 121) q21 122) q22 123) q23 124) q24 125) q25 126) q25 = 126 := va_up_self _ _ _
  refine zp_7_26 (x := some q25) (r1 := (zur (znw (zur (znw (zur (znw (zur (znw (zur (znw (zur (znw (zur (znw (zur (znw (zur (znw (zur (znw (zur (znw (zur (znw (zur (znw (zur (znw (zur (znw (zur (znw (zur (znw (zur (znw (zur (znw (zur (znw (zur (znw (zur (znw (zur (znw (zur (znw (zur (znw r q1) 1 th 0 (some q1)) q2) 2 th 0 (some q2)) q3) 3 th 0 (some q3)) q4) 4 th 0 (some q4)) q5) 5 th 0 (some q5)) q6) 6 th 0 (some q6)) q7) 8 th 0 (some q7)) q8) 9 th 0 (some q8)) q9) 10 th 0 (some q9)) q10) 11 th 0 (some q10)) q11) 12 th 0 (some q11)) q12) 13 th 0 (some q12)) q13) 14 th 0 (some q13)) q14) 15 th 0 (some q14)) q15) 16 th 0 (some q15)) q16) 17 th 0 (some q16)) q17) 18 th 0 (some q17)) q18) 19 th 0 (some q18)) q19) 20 th 0 (some q19)) q20) 21 th 0 (some q20)) q21) 22 th 0 (some q21)) q22) 23 th 0 (some q22)) q23) 24 th 0 (some q23)) q24) 25 th 0 (some q24)) q25) 26 th 0 (some q25))) hx hb hts hi7 hown hK hC hk_th w30 hin2 rfl rfl dX7_init_222 (fun H locs hC => ?_)
  refine lv_aload_n hx hb dX7_init_225 rfl (lv_at hl 0 rfl) ?_
  refine lv_sipush (v := 200) hx hb dX7_init_226 (by decide) ?_
  refine z_newaz (Zn := fun q => (c, znw (zur (znw (zur (znw (zur (znw (zur (znw (zur (znw (zur (znw (zur (znw (zur (znw (zur (znw (zur (znw (zur (znw (zur (znw (zur (znw (zur (znw (zur (znw (zur (znw (zur (znw (zur (znw (zur (znw (zur (znw (zur (znw (zur (znw (zur (znw (zur (znw (zur (znw r q1) 1 th 0 (some q1)) q2) 2 th 0 (some q2)) q3) 3 th 0 (some q3)) q4) 4 th 0 (some q4)) q5) 5 th 0 (some q5)) q6) 6 th 0 (some q6)) q7) 8 th 0 (some q7)) q8) 9 th 0 (some q8)) q9) 10 th 0 (some q9)) q10) 11 th 0 (some q10)) q11) 12 th 0 (some q11)) q12) 13 th 0 (some q12)) q13) 14 th 0 (some q13)) q14) 15 th 0 (some q14)) q15) 16 th 0 (some q15)) q16) 17 th 0 (some q16)) q17) 18 th 0 (some q17)) q18) 19 th 0 (some q18)) q19) 20 th 0 (some q19)) q20) 21 th 0 (some q20)) q21) 22 th 0 (some q21)) q22) 23 th 0 (some q22)) q23) 24 th 0 (some q23)) q24) 25 th 0 (some q24)) q25) 26 th 0 (some q25)) q, o)) (lab := 127) (N' := 200) hx hb w9 hK hG.1 hC (by decide) (by decide) (by decide) (Nat.le_of_ble_eq_true rfl) (Nat.le_of_ble_eq_true rfl) (fun q => by rw [zc_127]; rw [zi_znq]) (fun q => zOff.mnw) dX7_init_229 (fun q26 H hq_q26 hC => ?_)
  have n_q26 : th ≠ q26 := fun e => by rw [e] at hk_th; omega
  have hk_th : (va_up (va_up (va_up (va_up (va_up (va_up (va_up (va_up (va_up (va_up (va_up (va_up (va_up (va_up (va_up (va_up (va_up (va_up (va_up (va_up (va_up (va_up (va_up (va_up (va_up (va_up K q1 101) q2 102) q3 103) q4 104) q5 105) q6 106) q7 108) q8 109) q9 110) q10 111) q11 112) q12 113) q13 114) q14 115) q15 116) q16 117) q17 118) q18 119) q19 120) q20 121) q21 122) q22 123) q23 124) q24 125) q25 126) q26 127) th = 7 := zup_old hq_q26 hk_th (by decide)
  have hk_q26 : (va_up (va_up (va_up (va_up (va_up (va_up (va_up (va_up (va_up (va_up (va_up (va_up (va_up (va_up (va_up (va_up (va_up (va_up (va_up (va_up (va_up (va_up (va_up (va_up (va_up (va_up K q1 101) q2 102) q3 103) q4 104) q5 105) q6 106) q7 108) q8 109) q9 110) q10 111) q11 112) q12 113) q13 114) q14 115) q15 116) q16 117) q17 118) q18 119) q19 120) q20 121) q21 122) q22 123) q23 124) q24 125) q25 126) q26 127) q26 = 127 := va_up_self _ _ _
  refine zp_7_27 (x := some q26) (r1 := (zur (znw (zur (znw (zur (znw (zur (znw (zur (znw (zur (znw (zur (znw (zur (znw (zur (znw (zur (znw (zur (znw (zur (znw (zur (znw (zur (znw (zur (znw (zur (znw (zur (znw (zur (znw (zur (znw (zur (znw (zur (znw (zur (znw (zur (znw (zur (znw (zur (znw (zur (znw r q1) 1 th 0 (some q1)) q2) 2 th 0 (some q2)) q3) 3 th 0 (some q3)) q4) 4 th 0 (some q4)) q5) 5 th 0 (some q5)) q6) 6 th 0 (some q6)) q7) 8 th 0 (some q7)) q8) 9 th 0 (some q8)) q9) 10 th 0 (some q9)) q10) 11 th 0 (some q10)) q11) 12 th 0 (some q11)) q12) 13 th 0 (some q12)) q13) 14 th 0 (some q13)) q14) 15 th 0 (some q14)) q15) 16 th 0 (some q15)) q16) 17 th 0 (some q16)) q17) 18 th 0 (some q17)) q18) 19 th 0 (some q18)) q19) 20 th 0 (some q19)) q20) 21 th 0 (some q20)) q21) 22 th 0 (some q21)) q22) 23 th 0 (some q22)) q23) 24 th 0 (some q23)) q24) 25 th 0 (some q24)) q25) 26 th 0 (some q25)) q26) 27 th 0 (some q26))) hx hb hts hi7 hown hK hC hk_th w31 hin2 rfl rfl dX7_init_231 (fun H locs hC => ?_)
  refine lv_aload_n hx hb dX7_init_234 rfl (lv_at hl 0 rfl) ?_
  refine lv_sipush (v := 200) hx hb dX7_init_235 (by decide) ?_
  refine z_newai (Zn := fun q => (c, znw (zur (znw (zur (znw (zur (znw (zur (znw (zur (znw (zur (znw (zur (znw (zur (znw (zur (znw (zur (znw (zur (znw (zur (znw (zur (znw (zur (znw (zur (znw (zur (znw (zur (znw (zur (znw (zur (znw (zur (znw (zur (znw (zur (znw (zur (znw (zur (znw (zur (znw (zur (znw r q1) 1 th 0 (some q1)) q2) 2 th 0 (some q2)) q3) 3 th 0 (some q3)) q4) 4 th 0 (some q4)) q5) 5 th 0 (some q5)) q6) 6 th 0 (some q6)) q7) 8 th 0 (some q7)) q8) 9 th 0 (some q8)) q9) 10 th 0 (some q9)) q10) 11 th 0 (some q10)) q11) 12 th 0 (some q11)) q12) 13 th 0 (some q12)) q13) 14 th 0 (some q13)) q14) 15 th 0 (some q14)) q15) 16 th 0 (some q15)) q16) 17 th 0 (some q16)) q17) 18 th 0 (some q17)) q18) 19 th 0 (some q18)) q19) 20 th 0 (some q19)) q20) 21 th 0 (some q20)) q21) 22 th 0 (some q21)) q22) 23 th 0 (some q22)) q23) 24 th 0 (some q23)) q24) 25 th 0 (some q24)) q25) 26 th 0 (some q25)) q26) 27 th 0 (some q26)) q, o)) (lab := 128) (N' := 200) hx hb w3 hK hG.1 hC (by decide) (by decide) (by decide) (Nat.le_of_ble_eq_true rfl) (Nat.le_of_ble_eq_true rfl) (fun q => by rw [zc_128]; rw [zi_znq]) (fun q => zOff.mnw) dX7_init_238 (fun q27 H hq_q27 hC => ?_)
  have n_q27 : th ≠ q27 := fun e => by rw [e] at hk_th; omega
  have hk_th : (va_up (va_up (va_up (va_up (va_up (va_up (va_up (va_up (va_up (va_up (va_up (va_up (va_up (va_up (va_up (va_up (va_up (va_up (va_up (va_up (va_up (va_up (va_up (va_up (va_up (va_up (va_up K q1 101) q2 102) q3 103) q4 104) q5 105) q6 106) q7 108) q8 109) q9 110) q10 111) q11 112) q12 113) q13 114) q14 115) q15 116) q16 117) q17 118) q18 119) q19 120) q20 121) q21 122) q22 123) q23 124) q24 125) q25 126) q26 127) q27 128) th = 7 := zup_old hq_q27 hk_th (by decide)
  have hk_q27 : (va_up (va_up (va_up (va_up (va_up (va_up (va_up (va_up (va_up (va_up (va_up (va_up (va_up (va_up (va_up (va_up (va_up (va_up (va_up (va_up (va_up (va_up (va_up (va_up (va_up (va_up (va_up K q1 101) q2 102) q3 103) q4 104) q5 105) q6 106) q7 108) q8 109) q9 110) q10 111) q11 112) q12 113) q13 114) q14 115) q15 116) q16 117) q17 118) q18 119) q19 120) q20 121) q21 122) q22 123) q23 124) q24 125) q25 126) q26 127) q27 128) q27 = 128 := va_up_self _ _ _
  refine zp_7_28 (x := some q27) (r1 := (zur (znw (zur (znw (zur (znw (zur (znw (zur (znw (zur (znw (zur (znw (zur (znw (zur (znw (zur (znw (zur (znw (zur (znw (zur (znw (zur (znw (zur (znw (zur (znw (zur (znw (zur (znw (zur (znw (zur (znw (zur (znw (zur (znw (zur (znw (zur (znw (zur (znw (zur (znw (zur (znw r q1) 1 th 0 (some q1)) q2) 2 th 0 (some q2)) q3) 3 th 0 (some q3)) q4) 4 th 0 (some q4)) q5) 5 th 0 (some q5)) q6) 6 th 0 (some q6)) q7) 8 th 0 (some q7)) q8) 9 th 0 (some q8)) q9) 10 th 0 (some q9)) q10) 11 th 0 (some q10)) q11) 12 th 0 (some q11)) q12) 13 th 0 (some q12)) q13) 14 th 0 (some q13)) q14) 15 th 0 (some q14)) q15) 16 th 0 (some q15)) q16) 17 th 0 (some q16)) q17) 18 th 0 (some q17)) q18) 19 th 0 (some q18)) q19) 20 th 0 (some q19)) q20) 21 th 0 (some q20)) q21) 22 th 0 (some q21)) q22) 23 th 0 (some q22)) q23) 24 th 0 (some q23)) q24) 25 th 0 (some q24)) q25) 26 th 0 (some q25)) q26) 27 th 0 (some q26)) q27) 28 th 0 (some q27))) hx hb hts hi7 hown hK hC hk_th w32 hin2 rfl rfl dX7_init_240 (fun H locs hC => ?_)
  refine lv_aload_n hx hb dX7_init_243 rfl (lv_at hl 0 rfl) ?_
  refine lv_sipush (v := 200) hx hb dX7_init_244 (by decide) ?_
  refine z_newai (Zn := fun q => (c, znw (zur (znw (zur (znw (zur (znw (zur (znw (zur (znw (zur (znw (zur (znw (zur (znw (zur (znw (zur (znw (zur (znw (zur (znw (zur (znw (zur (znw (zur (znw (zur (znw (zur (znw (zur (znw (zur (znw (zur (znw (zur (znw (zur (znw (zur (znw (zur (znw (zur (znw (zur (znw (zur (znw r q1) 1 th 0 (some q1)) q2) 2 th 0 (some q2)) q3) 3 th 0 (some q3)) q4) 4 th 0 (some q4)) q5) 5 th 0 (some q5)) q6) 6 th 0 (some q6)) q7) 8 th 0 (some q7)) q8) 9 th 0 (some q8)) q9) 10 th 0 (some q9)) q10) 11 th 0 (some q10)) q11) 12 th 0 (some q11)) q12) 13 th 0 (some q12)) q13) 14 th 0 (some q13)) q14) 15 th 0 (some q14)) q15) 16 th 0 (some q15)) q16) 17 th 0 (some q16)) q17) 18 th 0 (some q17)) q18) 19 th 0 (some q18)) q19) 20 th 0 (some q19)) q20) 21 th 0 (some q20)) q21) 22 th 0 (some q21)) q22) 23 th 0 (some q22)) q23) 24 th 0 (some q23)) q24) 25 th 0 (some q24)) q25) 26 th 0 (some q25)) q26) 27 th 0 (some q26)) q27) 28 th 0 (some q27)) q, o)) (lab := 129) (N' := 200) hx hb w3 hK hG.1 hC (by decide) (by decide) (by decide) (Nat.le_of_ble_eq_true rfl) (Nat.le_of_ble_eq_true rfl) (fun q => by rw [zc_129]; rw [zi_znq]) (fun q => zOff.mnw) dX7_init_247 (fun q28 H hq_q28 hC => ?_)
  have n_q28 : th ≠ q28 := fun e => by rw [e] at hk_th; omega
  have hk_th : (va_up (va_up (va_up (va_up (va_up (va_up (va_up (va_up (va_up (va_up (va_up (va_up (va_up (va_up (va_up (va_up (va_up (va_up (va_up (va_up (va_up (va_up (va_up (va_up (va_up (va_up (va_up (va_up K q1 101) q2 102) q3 103) q4 104) q5 105) q6 106) q7 108) q8 109) q9 110) q10 111) q11 112) q12 113) q13 114) q14 115) q15 116) q16 117) q17 118) q18 119) q19 120) q20 121) q21 122) q22 123) q23 124) q24 125) q25 126) q26 127) q27 128) q28 129) th = 7 := zup_old hq_q28 hk_th (by decide)
  have hk_q28 : (va_up (va_up (va_up (va_up (va_up (va_up (va_up (va_up (va_up (va_up (va_up (va_up (va_up (va_up (va_up (va_up (va_up (va_up (va_up (va_up (va_up (va_up (va_up (va_up (va_up (va_up (va_up (va_up K q1 101) q2 102) q3 103) q4 104) q5 105) q6 106) q7 108) q8 109) q9 110) q10 111) q11 112) q12 113) q13 114) q14 115) q15 116) q16 117) q17 118) q18 119) q19 120) q20 121) q21 122) q22 123) q23 124) q24 125) q25 126) q26 127) q27 128) q28 129) q28 = 129 := va_up_self _ _ _
  refine zp_7_29 (x := some q28) (r1 := (zur (znw (zur (znw (zur (znw (zur (znw (zur (znw (zur (znw (zur (znw (zur (znw (zur (znw (zur (znw (zur (znw (zur (znw (zur (znw (zur (znw (zur (znw (zur (znw (zur (znw (zur (znw (zur (znw (zur (znw (zur (znw (zur (znw (zur (znw (zur (znw (zur (znw (zur (znw (zur (znw (zur (znw r q1) 1 th 0 (some q1)) q2) 2 th 0 (some q2)) q3) 3 th 0 (some q3)) q4) 4 th 0 (some q4)) q5) 5 th 0 (some q5)) q6) 6 th 0 (some q6)) q7) 8 th 0 (some q7)) q8) 9 th 0 (some q8)) q9) 10 th 0 (some q9)) q10) 11 th 0 (some q10)) q11) 12 th 0 (some q11)) q12) 13 th 0 (some q12)) q13) 14 th 0 (some q13)) q14) 15 th 0 (some q14)) q15) 16 th 0 (some q15)) q16) 17 th 0 (some q16)) q17) 18 th 0 (some q17)) q18) 19 th 0 (some q18)) q19) 20 th 0 (some q19)) q20) 21 th 0 (some q20)) q21) 22 th 0 (some q21)) q22) 23 th 0 (some q22)) q23) 24 th 0 (some q23)) q24) 25 th 0 (some q24)) q25) 26 th 0 (some q25)) q26) 27 th 0 (some q26)) q27) 28 th 0 (some q27)) q28) 29 th 0 (some q28))) hx hb hts hi7 hown hK hC hk_th w33 hin2 rfl rfl dX7_init_249 (fun H locs hC => ?_)
  refine lv_aload_n hx hb dX7_init_252 rfl (lv_at hl 0 rfl) ?_
  refine lv_sipush (v := 200) hx hb dX7_init_253 (by decide) ?_
  refine z_newai (Zn := fun q => (c, znw (zur (znw (zur (znw (zur (znw (zur (znw (zur (znw (zur (znw (zur (znw (zur (znw (zur (znw (zur (znw (zur (znw (zur (znw (zur (znw (zur (znw (zur (znw (zur (znw (zur (znw (zur (znw (zur (znw (zur (znw (zur (znw (zur (znw (zur (znw (zur (znw (zur (znw (zur (znw (zur (znw (zur (znw r q1) 1 th 0 (some q1)) q2) 2 th 0 (some q2)) q3) 3 th 0 (some q3)) q4) 4 th 0 (some q4)) q5) 5 th 0 (some q5)) q6) 6 th 0 (some q6)) q7) 8 th 0 (some q7)) q8) 9 th 0 (some q8)) q9) 10 th 0 (some q9)) q10) 11 th 0 (some q10)) q11) 12 th 0 (some q11)) q12) 13 th 0 (some q12)) q13) 14 th 0 (some q13)) q14) 15 th 0 (some q14)) q15) 16 th 0 (some q15)) q16) 17 th 0 (some q16)) q17) 18 th 0 (some q17)) q18) 19 th 0 (some q18)) q19) 20 th 0 (some q19)) q20) 21 th 0 (some q20)) q21) 22 th 0 (some q21)) q22) 23 th 0 (some q22)) q23) 24 th 0 (some q23)) q24) 25 th 0 (some q24)) q25) 26 th 0 (some q25)) q26) 27 th 0 (some q26)) q27) 28 th 0 (some q27)) q28) 29 th 0 (some q28)) q, o)) (lab := 130) (N' := 200) hx hb w3 hK hG.1 hC (by decide) (by decide) (by decide) (Nat.le_of_ble_eq_true rfl) (Nat.le_of_ble_eq_true rfl) (fun q => by rw [zc_130]; rw [zi_znq]) (fun q => zOff.mnw) dX7_init_256 (fun q29 H hq_q29 hC => ?_)
  have n_q29 : th ≠ q29 := fun e => by rw [e] at hk_th; omega
  have hk_th : (va_up (va_up (va_up (va_up (va_up (va_up (va_up (va_up (va_up (va_up (va_up (va_up (va_up (va_up (va_up (va_up (va_up (va_up (va_up (va_up (va_up (va_up (va_up (va_up (va_up (va_up (va_up (va_up (va_up K q1 101) q2 102) q3 103) q4 104) q5 105) q6 106) q7 108) q8 109) q9 110) q10 111) q11 112) q12 113) q13 114) q14 115) q15 116) q16 117) q17 118) q18 119) q19 120) q20 121) q21 122) q22 123) q23 124) q24 125) q25 126) q26 127) q27 128) q28 129) q29 130) th = 7 := zup_old hq_q29 hk_th (by decide)
  have hk_q29 : (va_up (va_up (va_up (va_up (va_up (va_up (va_up (va_up (va_up (va_up (va_up (va_up (va_up (va_up (va_up (va_up (va_up (va_up (va_up (va_up (va_up (va_up (va_up (va_up (va_up (va_up (va_up (va_up (va_up K q1 101) q2 102) q3 103) q4 104) q5 105) q6 106) q7 108) q8 109) q9 110) q10 111) q11 112) q12 113) q13 114) q14 115) q15 116) q16 117) q17 118) q18 119) q19 120) q20 121) q21 122) q22 123) q23 124) q24 125) q25 126) q26 127) q27 128) q28 129) q29 130) q29 = 130 := va_up_self _ _ _
  refine zp_7_30 (x := some q29) (r1 := (zur (znw (zur (znw (zur (znw (zur (znw (zur (znw (zur (znw (zur (znw (zur (znw (zur (znw (zur (znw (zur (znw (zur (znw (zur (znw (zur (znw (zur (znw (zur (znw (zur (znw (zur (znw (zur (znw (zur (znw (zur (znw (zur (znw (zur (znw (zur (znw (zur (znw (zur (znw (zur (znw (zur (znw (zur (znw r q1) 1 th 0 (some q1)) q2) 2 th 0 (some q2)) q3) 3 th 0 (some q3)) q4) 4 th 0 (some q4)) q5) 5 th 0 (some q5)) q6) 6 th 0 (some q6)) q7) 8 th 0 (some q7)) q8) 9 th 0 (some q8)) q9) 10 th 0 (some q9)) q10) 11 th 0 (some q10)) q11) 12 th 0 (some q11)) q12) 13 th 0 (some q12)) q13) 14 th 0 (some q13)) q14) 15 th 0 (some q14)) q15) 16 th 0 (some q15)) q16) 17 th 0 (some q16)) q17) 18 th 0 (some q17)) q18) 19 th 0 (some q18)) q19) 20 th 0 (some q19)) q20) 21 th 0 (some q20)) q21) 22 th 0 (some q21)) q22) 23 th 0 (some q22)) q23) 24 th 0 (some q23)) q24) 25 th 0 (some q24)) q25) 26 th 0 (some q25)) q26) 27 th 0 (some q26)) q27) 28 th 0 (some q27)) q28) 29 th 0 (some q28)) q29) 30 th 0 (some q29))) hx hb hts hi7 hown hK hC hk_th w34 hin2 rfl rfl dX7_init_258 (fun H locs hC => ?_)
  refine lv_aload_n hx hb dX7_init_261 rfl (lv_at hl 0 rfl) ?_
  refine lv_sipush (v := 200) hx hb dX7_init_262 (by decide) ?_
  refine z_newai (Zn := fun q => (c, znw (zur (znw (zur (znw (zur (znw (zur (znw (zur (znw (zur (znw (zur (znw (zur (znw (zur (znw (zur (znw (zur (znw (zur (znw (zur (znw (zur (znw (zur (znw (zur (znw (zur (znw (zur (znw (zur (znw (zur (znw (zur (znw (zur (znw (zur (znw (zur (znw (zur (znw (zur (znw (zur (znw (zur (znw (zur (znw r q1) 1 th 0 (some q1)) q2) 2 th 0 (some q2)) q3) 3 th 0 (some q3)) q4) 4 th 0 (some q4)) q5) 5 th 0 (some q5)) q6) 6 th 0 (some q6)) q7) 8 th 0 (some q7)) q8) 9 th 0 (some q8)) q9) 10 th 0 (some q9)) q10) 11 th 0 (some q10)) q11) 12 th 0 (some q11)) q12) 13 th 0 (some q12)) q13) 14 th 0 (some q13)) q14) 15 th 0 (some q14)) q15) 16 th 0 (some q15)) q16) 17 th 0 (some q16)) q17) 18 th 0 (some q17)) q18) 19 th 0 (some q18)) q19) 20 th 0 (some q19)) q20) 21 th 0 (some q20)) q21) 22 th 0 (some q21)) q22) 23 th 0 (some q22)) q23) 24 th 0 (some q23)) q24) 25 th 0 (some q24)) q25) 26 th 0 (some q25)) q26) 27 th 0 (some q26)) q27) 28 th 0 (some q27)) q28) 29 th 0 (some q28)) q29) 30 th 0 (some q29)) q, o)) (lab := 131) (N' := 200) hx hb w3 hK hG.1 hC (by decide) (by decide) (by decide) (Nat.le_of_ble_eq_true rfl) (Nat.le_of_ble_eq_true rfl) (fun q => by rw [zc_131]; rw [zi_znq]) (fun q => zOff.mnw) dX7_init_265 (fun q30 H hq_q30 hC => ?_)
  have n_q30 : th ≠ q30 := fun e => by rw [e] at hk_th; omega
  have hk_th : (va_up (va_up (va_up (va_up (va_up (va_up (va_up (va_up (va_up (va_up (va_up (va_up (va_up (va_up (va_up (va_up (va_up (va_up (va_up (va_up (va_up (va_up (va_up (va_up (va_up (va_up (va_up (va_up (va_up (va_up K q1 101) q2 102) q3 103) q4 104) q5 105) q6 106) q7 108) q8 109) q9 110) q10 111) q11 112) q12 113) q13 114) q14 115) q15 116) q16 117) q17 118) q18 119) q19 120) q20 121) q21 122) q22 123) q23 124) q24 125) q25 126) q26 127) q27 128) q28 129) q29 130) q30 131) th = 7 := zup_old hq_q30 hk_th (by decide)
  have hk_q30 : (va_up (va_up (va_up (va_up (va_up (va_up (va_up (va_up (va_up (va_up (va_up (va_up (va_up (va_up (va_up (va_up (va_up (va_up (va_up (va_up (va_up (va_up (va_up (va_up (va_up (va_up (va_up (va_up (va_up (va_up K q1 101) q2 102) q3 103) q4 104) q5 105) q6 106) q7 108) q8 109) q9 110) q10 111) q11 112) q12 113) q13 114) q14 115) q15 116) q16 117) q17 118) q18 119) q19 120) q20 121) q21 122) q22 123) q23 124) q24 125) q25 126) q26 127) q27 128) q28 129) q29 130) q30 131) q30 = 131 := va_up_self _ _ _
  refine zp_7_31 (x := some q30) (r1 := (zur (znw (zur (znw (zur (znw (zur (znw (zur (znw (zur (znw (zur (znw (zur (znw (zur (znw (zur (znw (zur (znw (zur (znw (zur (znw (zur (znw (zur (znw (zur (znw (zur (znw (zur (znw (zur (znw (zur (znw (zur (znw (zur (znw (zur (znw (zur (znw (zur (znw (zur (znw (zur (znw (zur (znw (zur (znw (zur (znw r q1) 1 th 0 (some q1)) q2) 2 th 0 (some q2)) q3) 3 th 0 (some q3)) q4) 4 th 0 (some q4)) q5) 5 th 0 (some q5)) q6) 6 th 0 (some q6)) q7) 8 th 0 (some q7)) q8) 9 th 0 (some q8)) q9) 10 th 0 (some q9)) q10) 11 th 0 (some q10)) q11) 12 th 0 (some q11)) q12) 13 th 0 (some q12)) q13) 14 th 0 (some q13)) q14) 15 th 0 (some q14)) q15) 16 th 0 (some q15)) q16) 17 th 0 (some q16)) q17) 18 th 0 (some q17)) q18) 19 th 0 (some q18)) q19) 20 th 0 (some q19)) q20) 21 th 0 (some q20)) q21) 22 th 0 (some q21)) q22) 23 th 0 (some q22)) q23) 24 th 0 (some q23)) q24) 25 th 0 (some q24)) q25) 26 th 0 (some q25)) q26) 27 th 0 (some q26)) q27) 28 th 0 (some q27)) q28) 29 th 0 (some q28)) q29) 30 th 0 (some q29)) q30) 31 th 0 (some q30))) hx hb hts hi7 hown hK hC hk_th w35 hin2 rfl rfl dX7_init_267 (fun H locs hC => ?_)
  refine lv_aload_n hx hb dX7_init_270 rfl (lv_at hl 0 rfl) ?_
  refine lv_sipush (v := 200) hx hb dX7_init_271 (by decide) ?_
  refine z_newai (Zn := fun q => (c, znw (zur (znw (zur (znw (zur (znw (zur (znw (zur (znw (zur (znw (zur (znw (zur (znw (zur (znw (zur (znw (zur (znw (zur (znw (zur (znw (zur (znw (zur (znw (zur (znw (zur (znw (zur (znw (zur (znw (zur (znw (zur (znw (zur (znw (zur (znw (zur (znw (zur (znw (zur (znw (zur (znw (zur (znw (zur (znw (zur (znw r q1) 1 th 0 (some q1)) q2) 2 th 0 (some q2)) q3) 3 th 0 (some q3)) q4) 4 th 0 (some q4)) q5) 5 th 0 (some q5)) q6) 6 th 0 (some q6)) q7) 8 th 0 (some q7)) q8) 9 th 0 (some q8)) q9) 10 th 0 (some q9)) q10) 11 th 0 (some q10)) q11) 12 th 0 (some q11)) q12) 13 th 0 (some q12)) q13) 14 th 0 (some q13)) q14) 15 th 0 (some q14)) q15) 16 th 0 (some q15)) q16) 17 th 0 (some q16)) q17) 18 th 0 (some q17)) q18) 19 th 0 (some q18)) q19) 20 th 0 (some q19)) q20) 21 th 0 (some q20)) q21) 22 th 0 (some q21)) q22) 23 th 0 (some q22)) q23) 24 th 0 (some q23)) q24) 25 th 0 (some q24)) q25) 26 th 0 (some q25)) q26) 27 th 0 (some q26)) q27) 28 th 0 (some q27)) q28) 29 th 0 (some q28)) q29) 30 th 0 (some q29)) q30) 31 th 0 (some q30)) q, o)) (lab := 132) (N' := 200) hx hb w3 hK hG.1 hC (by decide) (by decide) (by decide) (Nat.le_of_ble_eq_true rfl) (Nat.le_of_ble_eq_true rfl) (fun q => by rw [zc_132]; rw [zi_znq]) (fun q => zOff.mnw) dX7_init_274 (fun q31 H hq_q31 hC => ?_)
  have n_q31 : th ≠ q31 := fun e => by rw [e] at hk_th; omega
  have hk_th : (va_up (va_up (va_up (va_up (va_up (va_up (va_up (va_up (va_up (va_up (va_up (va_up (va_up (va_up (va_up (va_up (va_up (va_up (va_up (va_up (va_up (va_up (va_up (va_up (va_up (va_up (va_up (va_up (va_up (va_up (va_up K q1 101) q2 102) q3 103) q4 104) q5 105) q6 106) q7 108) q8 109) q9 110) q10 111) q11 112) q12 113) q13 114) q14 115) q15 116) q16 117) q17 118) q18 119) q19 120) q20 121) q21 122) q22 123) q23 124) q24 125) q25 126) q26 127) q27 128) q28 129) q29 130) q30 131) q31 132) th = 7 := zup_old hq_q31 hk_th (by decide)
  have hk_q31 : (va_up (va_up (va_up (va_up (va_up (va_up (va_up (va_up (va_up (va_up (va_up (va_up (va_up (va_up (va_up (va_up (va_up (va_up (va_up (va_up (va_up (va_up (va_up (va_up (va_up (va_up (va_up (va_up (va_up (va_up (va_up K q1 101) q2 102) q3 103) q4 104) q5 105) q6 106) q7 108) q8 109) q9 110) q10 111) q11 112) q12 113) q13 114) q14 115) q15 116) q16 117) q17 118) q18 119) q19 120) q20 121) q21 122) q22 123) q23 124) q24 125) q25 126) q26 127) q27 128) q28 129) q29 130) q30 131) q31 132) q31 = 132 := va_up_self _ _ _
  refine zp_7_32 (x := some q31) (r1 := (zur (znw (zur (znw (zur (znw (zur (znw (zur (znw (zur (znw (zur (znw (zur (znw (zur (znw (zur (znw (zur (znw (zur (znw (zur (znw (zur (znw (zur (znw (zur (znw (zur (znw (zur (znw (zur (znw (zur (znw (zur (znw (zur (znw (zur (znw (zur (znw (zur (znw (zur (znw (zur (znw (zur (znw (zur (znw (zur (znw (zur (znw r q1) 1 th 0 (some q1)) q2) 2 th 0 (some q2)) q3) 3 th 0 (some q3)) q4) 4 th 0 (some q4)) q5) 5 th 0 (some q5)) q6) 6 th 0 (some q6)) q7) 8 th 0 (some q7)) q8) 9 th 0 (some q8)) q9) 10 th 0 (some q9)) q10) 11 th 0 (some q10)) q11) 12 th 0 (some q11)) q12) 13 th 0 (some q12)) q13) 14 th 0 (some q13)) q14) 15 th 0 (some q14)) q15) 16 th 0 (some q15)) q16) 17 th 0 (some q16)) q17) 18 th 0 (some q17)) q18) 19 th 0 (some q18)) q19) 20 th 0 (some q19)) q20) 21 th 0 (some q20)) q21) 22 th 0 (some q21)) q22) 23 th 0 (some q22)) q23) 24 th 0 (some q23)) q24) 25 th 0 (some q24)) q25) 26 th 0 (some q25)) q26) 27 th 0 (some q26)) q27) 28 th 0 (some q27)) q28) 29 th 0 (some q28)) q29) 30 th 0 (some q29)) q30) 31 th 0 (some q30)) q31) 32 th 0 (some q31))) hx hb hts hi7 hown hK hC hk_th w36 hin2 rfl rfl dX7_init_276 (fun H locs hC => ?_)
  refine lv_aload_n hx hb dX7_init_279 rfl (lv_at hl 0 rfl) ?_
  refine lv_sipush (v := 200) hx hb dX7_init_280 (by decide) ?_
  refine z_newai (Zn := fun q => (c, znw (zur (znw (zur (znw (zur (znw (zur (znw (zur (znw (zur (znw (zur (znw (zur (znw (zur (znw (zur (znw (zur (znw (zur (znw (zur (znw (zur (znw (zur (znw (zur (znw (zur (znw (zur (znw (zur (znw (zur (znw (zur (znw (zur (znw (zur (znw (zur (znw (zur (znw (zur (znw (zur (znw (zur (znw (zur (znw (zur (znw (zur (znw r q1) 1 th 0 (some q1)) q2) 2 th 0 (some q2)) q3) 3 th 0 (some q3)) q4) 4 th 0 (some q4)) q5) 5 th 0 (some q5)) q6) 6 th 0 (some q6)) q7) 8 th 0 (some q7)) q8) 9 th 0 (some q8)) q9) 10 th 0 (some q9)) q10) 11 th 0 (some q10)) q11) 12 th 0 (some q11)) q12) 13 th 0 (some q12)) q13) 14 th 0 (some q13)) q14) 15 th 0 (some q14)) q15) 16 th 0 (some q15)) q16) 17 th 0 (some q16)) q17) 18 th 0 (some q17)) q18) 19 th 0 (some q18)) q19) 20 th 0 (some q19)) q20) 21 th 0 (some q20)) q21) 22 th 0 (some q21)) q22) 23 th 0 (some q22)) q23) 24 th 0 (some q23)) q24) 25 th 0 (some q24)) q25) 26 th 0 (some q25)) q26) 27 th 0 (some q26)) q27) 28 th 0 (some q27)) q28) 29 th 0 (some q28)) q29) 30 th 0 (some q29)) q30) 31 th 0 (some q30)) q31) 32 th 0 (some q31)) q, o)) (lab := 133) (N' := 200) hx hb w3 hK hG.1 hC (by decide) (by decide) (by decide) (Nat.le_of_ble_eq_true rfl) (Nat.le_of_ble_eq_true rfl) (fun q => by rw [zc_133]; rw [zi_znq]) (fun q => zOff.mnw) dX7_init_283 (fun q32 H hq_q32 hC => ?_)
  have n_q32 : th ≠ q32 := fun e => by rw [e] at hk_th; omega
  have hk_th : (va_up (va_up (va_up (va_up (va_up (va_up (va_up (va_up (va_up (va_up (va_up (va_up (va_up (va_up (va_up (va_up (va_up (va_up (va_up (va_up (va_up (va_up (va_up (va_up (va_up (va_up (va_up (va_up (va_up (va_up (va_up (va_up K q1 101) q2 102) q3 103) q4 104) q5 105) q6 106) q7 108) q8 109) q9 110) q10 111) q11 112) q12 113) q13 114) q14 115) q15 116) q16 117) q17 118) q18 119) q19 120) q20 121) q21 122) q22 123) q23 124) q24 125) q25 126) q26 127) q27 128) q28 129) q29 130) q30 131) q31 132) q32 133) th = 7 := zup_old hq_q32 hk_th (by decide)
  have hk_q32 : (va_up (va_up (va_up (va_up (va_up (va_up (va_up (va_up (va_up (va_up (va_up (va_up (va_up (va_up (va_up (va_up (va_up (va_up (va_up (va_up (va_up (va_up (va_up (va_up (va_up (va_up (va_up (va_up (va_up (va_up (va_up (va_up K q1 101) q2 102) q3 103) q4 104) q5 105) q6 106) q7 108) q8 109) q9 110) q10 111) q11 112) q12 113) q13 114) q14 115) q15 116) q16 117) q17 118) q18 119) q19 120) q20 121) q21 122) q22 123) q23 124) q24 125) q25 126) q26 127) q27 128) q28 129) q29 130) q30 131) q31 132) q32 133) q32 = 133 := va_up_self _ _ _
  refine zp_7_33 (x := some q32) (r1 := (zur (znw (zur (znw (zur (znw (zur (znw (zur (znw (zur (znw (zur (znw (zur (znw (zur (znw (zur (znw (zur (znw (zur (znw (zur (znw (zur (znw (zur (znw (zur (znw (zur (znw (zur (znw (zur (znw (zur (znw (zur (znw (zur (znw (zur (znw (zur (znw (zur (znw (zur (znw (zur (znw (zur (znw (zur (znw (zur (znw (zur (znw (zur (znw r q1) 1 th 0 (some q1)) q2) 2 th 0 (some q2)) q3) 3 th 0 (some q3)) q4) 4 th 0 (some q4)) q5) 5 th 0 (some q5)) q6) 6 th 0 (some q6)) q7) 8 th 0 (some q7)) q8) 9 th 0 (some q8)) q9) 10 th 0 (some q9)) q10) 11 th 0 (some q10)) q11) 12 th 0 (some q11)) q12) 13 th 0 (some q12)) q13) 14 th 0 (some q13)) q14) 15 th 0 (some q14)) q15) 16 th 0 (some q15)) q16) 17 th 0 (some q16)) q17) 18 th 0 (some q17)) q18) 19 th 0 (some q18)) q19) 20 th 0 (some q19)) q20) 21 th 0 (some q20)) q21) 22 th 0 (some q21)) q22) 23 th 0 (some q22)) q23) 24 th 0 (some q23)) q24) 25 th 0 (some q24)) q25) 26 th 0 (some q25)) q26) 27 th 0 (some q26)) q27) 28 th 0 (some q27)) q28) 29 th 0 (some q28)) q29) 30 th 0 (some q29)) q30) 31 th 0 (some q30)) q31) 32 th 0 (some q31)) q32) 33 th 0 (some q32))) hx hb hts hi7 hown hK hC hk_th w37 hin2 rfl rfl dX7_init_285 (fun H locs hC => ?_)
  refine lv_aload_n hx hb dX7_init_288 rfl (lv_at hl 0 rfl) ?_
  refine lv_sipush (v := 200) hx hb dX7_init_289 (by decide) ?_
  refine z_newal (Zn := fun q => (c, znw (zur (znw (zur (znw (zur (znw (zur (znw (zur (znw (zur (znw (zur (znw (zur (znw (zur (znw (zur (znw (zur (znw (zur (znw (zur (znw (zur (znw (zur (znw (zur (znw (zur (znw (zur (znw (zur (znw (zur (znw (zur (znw (zur (znw (zur (znw (zur (znw (zur (znw (zur (znw (zur (znw (zur (znw (zur (znw (zur (znw (zur (znw (zur (znw r q1) 1 th 0 (some q1)) q2) 2 th 0 (some q2)) q3) 3 th 0 (some q3)) q4) 4 th 0 (some q4)) q5) 5 th 0 (some q5)) q6) 6 th 0 (some q6)) q7) 8 th 0 (some q7)) q8) 9 th 0 (some q8)) q9) 10 th 0 (some q9)) q10) 11 th 0 (some q10)) q11) 12 th 0 (some q11)) q12) 13 th 0 (some q12)) q13) 14 th 0 (some q13)) q14) 15 th 0 (some q14)) q15) 16 th 0 (some q15)) q16) 17 th 0 (some q16)) q17) 18 th 0 (some q17)) q18) 19 th 0 (some q18)) q19) 20 th 0 (some q19)) q20) 21 th 0 (some q20)) q21) 22 th 0 (some q21)) q22) 23 th 0 (some q22)) q23) 24 th 0 (some q23)) q24) 25 th 0 (some q24)) q25) 26 th 0 (some q25)) q26) 27 th 0 (some q26)) q27) 28 th 0 (some q27)) q28) 29 th 0 (some q28)) q29) 30 th 0 (some q29)) q30) 31 th 0 (some q30)) q31) 32 th 0 (some q31)) q32) 33 th 0 (some q32)) q, o)) (lab := 134) (N' := 200) hx hb w38 hK hG.1 hC (by decide) (by decide) (by decide) (Nat.le_of_ble_eq_true rfl) (Nat.le_of_ble_eq_true rfl) (fun q => by rw [zc_134]; rw [zl_znq]) (fun q => zOff.mnw) dX7_init_292 (fun q33 H hq_q33 hC => ?_)
  have n_q33 : th ≠ q33 := fun e => by rw [e] at hk_th; omega
  have hk_th : (va_up (va_up (va_up (va_up (va_up (va_up (va_up (va_up (va_up (va_up (va_up (va_up (va_up (va_up (va_up (va_up (va_up (va_up (va_up (va_up (va_up (va_up (va_up (va_up (va_up (va_up (va_up (va_up (va_up (va_up (va_up (va_up (va_up K q1 101) q2 102) q3 103) q4 104) q5 105) q6 106) q7 108) q8 109) q9 110) q10 111) q11 112) q12 113) q13 114) q14 115) q15 116) q16 117) q17 118) q18 119) q19 120) q20 121) q21 122) q22 123) q23 124) q24 125) q25 126) q26 127) q27 128) q28 129) q29 130) q30 131) q31 132) q32 133) q33 134) th = 7 := zup_old hq_q33 hk_th (by decide)
  have hk_q33 : (va_up (va_up (va_up (va_up (va_up (va_up (va_up (va_up (va_up (va_up (va_up (va_up (va_up (va_up (va_up (va_up (va_up (va_up (va_up (va_up (va_up (va_up (va_up (va_up (va_up (va_up (va_up (va_up (va_up (va_up (va_up (va_up (va_up K q1 101) q2 102) q3 103) q4 104) q5 105) q6 106) q7 108) q8 109) q9 110) q10 111) q11 112) q12 113) q13 114) q14 115) q15 116) q16 117) q17 118) q18 119) q19 120) q20 121) q21 122) q22 123) q23 124) q24 125) q25 126) q26 127) q27 128) q28 129) q29 130) q30 131) q31 132) q32 133) q33 134) q33 = 134 := va_up_self _ _ _
  refine zp_7_34 (x := some q33) (r1 := (zur (znw (zur (znw (zur (znw (zur (znw (zur (znw (zur (znw (zur (znw (zur (znw (zur (znw (zur (znw (zur (znw (zur (znw (zur (znw (zur (znw (zur (znw (zur (znw (zur (znw (zur (znw (zur (znw (zur (znw (zur (znw (zur (znw (zur (znw (zur (znw (zur (znw (zur (znw (zur (znw (zur (znw (zur (znw (zur (znw (zur (znw (zur (znw (zur (znw r q1) 1 th 0 (some q1)) q2) 2 th 0 (some q2)) q3) 3 th 0 (some q3)) q4) 4 th 0 (some q4)) q5) 5 th 0 (some q5)) q6) 6 th 0 (some q6)) q7) 8 th 0 (some q7)) q8) 9 th 0 (some q8)) q9) 10 th 0 (some q9)) q10) 11 th 0 (some q10)) q11) 12 th 0 (some q11)) q12) 13 th 0 (some q12)) q13) 14 th 0 (some q13)) q14) 15 th 0 (some q14)) q15) 16 th 0 (some q15)) q16) 17 th 0 (some q16)) q17) 18 th 0 (some q17)) q18) 19 th 0 (some q18)) q19) 20 th 0 (some q19)) q20) 21 th 0 (some q20)) q21) 22 th 0 (some q21)) q22) 23 th 0 (some q22)) q23) 24 th 0 (some q23)) q24) 25 th 0 (some q24)) q25) 26 th 0 (some q25)) q26) 27 th 0 (some q26)) q27) 28 th 0 (some q27)) q28) 29 th 0 (some q28)) q29) 30 th 0 (some q29)) q30) 31 th 0 (some q30)) q31) 32 th 0 (some q31)) q32) 33 th 0 (some q32)) q33) 34 th 0 (some q33))) hx hb hts hi7 hown hK hC hk_th w39 hin2 rfl rfl dX7_init_294 (fun H locs hC => ?_)
  refine lv_aload_n hx hb dX7_init_297 rfl (lv_at hl 0 rfl) ?_
  refine lv_sipush (v := 8000) hx hb dX7_init_298 (by decide) ?_
  refine z_newaz (Zn := fun q => (c, znw (zur (znw (zur (znw (zur (znw (zur (znw (zur (znw (zur (znw (zur (znw (zur (znw (zur (znw (zur (znw (zur (znw (zur (znw (zur (znw (zur (znw (zur (znw (zur (znw (zur (znw (zur (znw (zur (znw (zur (znw (zur (znw (zur (znw (zur (znw (zur (znw (zur (znw (zur (znw (zur (znw (zur (znw (zur (znw (zur (znw (zur (znw (zur (znw (zur (znw r q1) 1 th 0 (some q1)) q2) 2 th 0 (some q2)) q3) 3 th 0 (some q3)) q4) 4 th 0 (some q4)) q5) 5 th 0 (some q5)) q6) 6 th 0 (some q6)) q7) 8 th 0 (some q7)) q8) 9 th 0 (some q8)) q9) 10 th 0 (some q9)) q10) 11 th 0 (some q10)) q11) 12 th 0 (some q11)) q12) 13 th 0 (some q12)) q13) 14 th 0 (some q13)) q14) 15 th 0 (some q14)) q15) 16 th 0 (some q15)) q16) 17 th 0 (some q16)) q17) 18 th 0 (some q17)) q18) 19 th 0 (some q18)) q19) 20 th 0 (some q19)) q20) 21 th 0 (some q20)) q21) 22 th 0 (some q21)) q22) 23 th 0 (some q22)) q23) 24 th 0 (some q23)) q24) 25 th 0 (some q24)) q25) 26 th 0 (some q25)) q26) 27 th 0 (some q26)) q27) 28 th 0 (some q27)) q28) 29 th 0 (some q28)) q29) 30 th 0 (some q29)) q30) 31 th 0 (some q30)) q31) 32 th 0 (some q31)) q32) 33 th 0 (some q32)) q33) 34 th 0 (some q33)) q, o)) (lab := 145) (N' := 8000) hx hb w9 hK hG.1 hC (by decide) (by decide) (by decide) (Nat.le_of_ble_eq_true rfl) (Nat.le_of_ble_eq_true rfl) (fun q => by rw [zc_145]; rw [zi_znq]) (fun q => zOff.mnw) dX7_init_301 (fun q34 H hq_q34 hC => ?_)
  have n_q34 : th ≠ q34 := fun e => by rw [e] at hk_th; omega
  have hk_th : (va_up (va_up (va_up (va_up (va_up (va_up (va_up (va_up (va_up (va_up (va_up (va_up (va_up (va_up (va_up (va_up (va_up (va_up (va_up (va_up (va_up (va_up (va_up (va_up (va_up (va_up (va_up (va_up (va_up (va_up (va_up (va_up (va_up (va_up K q1 101) q2 102) q3 103) q4 104) q5 105) q6 106) q7 108) q8 109) q9 110) q10 111) q11 112) q12 113) q13 114) q14 115) q15 116) q16 117) q17 118) q18 119) q19 120) q20 121) q21 122) q22 123) q23 124) q24 125) q25 126) q26 127) q27 128) q28 129) q29 130) q30 131) q31 132) q32 133) q33 134) q34 145) th = 7 := zup_old hq_q34 hk_th (by decide)
  have hk_q34 : (va_up (va_up (va_up (va_up (va_up (va_up (va_up (va_up (va_up (va_up (va_up (va_up (va_up (va_up (va_up (va_up (va_up (va_up (va_up (va_up (va_up (va_up (va_up (va_up (va_up (va_up (va_up (va_up (va_up (va_up (va_up (va_up (va_up (va_up K q1 101) q2 102) q3 103) q4 104) q5 105) q6 106) q7 108) q8 109) q9 110) q10 111) q11 112) q12 113) q13 114) q14 115) q15 116) q16 117) q17 118) q18 119) q19 120) q20 121) q21 122) q22 123) q23 124) q24 125) q25 126) q26 127) q27 128) q28 129) q29 130) q30 131) q31 132) q32 133) q33 134) q34 145) q34 = 145 := va_up_self _ _ _
  refine zp_7_45 (x := some q34) (r1 := (zur (znw (zur (znw (zur (znw (zur (znw (zur (znw (zur (znw (zur (znw (zur (znw (zur (znw (zur (znw (zur (znw (zur (znw (zur (znw (zur (znw (zur (znw (zur (znw (zur (znw (zur (znw (zur (znw (zur (znw (zur (znw (zur (znw (zur (znw (zur (znw (zur (znw (zur (znw (zur (znw (zur (znw (zur (znw (zur (znw (zur (znw (zur (znw (zur (znw (zur (znw r q1) 1 th 0 (some q1)) q2) 2 th 0 (some q2)) q3) 3 th 0 (some q3)) q4) 4 th 0 (some q4)) q5) 5 th 0 (some q5)) q6) 6 th 0 (some q6)) q7) 8 th 0 (some q7)) q8) 9 th 0 (some q8)) q9) 10 th 0 (some q9)) q10) 11 th 0 (some q10)) q11) 12 th 0 (some q11)) q12) 13 th 0 (some q12)) q13) 14 th 0 (some q13)) q14) 15 th 0 (some q14)) q15) 16 th 0 (some q15)) q16) 17 th 0 (some q16)) q17) 18 th 0 (some q17)) q18) 19 th 0 (some q18)) q19) 20 th 0 (some q19)) q20) 21 th 0 (some q20)) q21) 22 th 0 (some q21)) q22) 23 th 0 (some q22)) q23) 24 th 0 (some q23)) q24) 25 th 0 (some q24)) q25) 26 th 0 (some q25)) q26) 27 th 0 (some q26)) q27) 28 th 0 (some q27)) q28) 29 th 0 (some q28)) q29) 30 th 0 (some q29)) q30) 31 th 0 (some q30)) q31) 32 th 0 (some q31)) q32) 33 th 0 (some q32)) q33) 34 th 0 (some q33)) q34) 45 th 0 (some q34))) hx hb hts hi7 hown hK hC hk_th w40 hin2 rfl rfl dX7_init_303 (fun H locs hC => ?_)
  refine lv_aload_n hx hb dX7_init_306 rfl (lv_at hl 0 rfl) ?_
  refine lv_sipush (v := 201) hx hb dX7_init_307 (by decide) ?_
  refine z_newai (Zn := fun q => (c, znw (zur (znw (zur (znw (zur (znw (zur (znw (zur (znw (zur (znw (zur (znw (zur (znw (zur (znw (zur (znw (zur (znw (zur (znw (zur (znw (zur (znw (zur (znw (zur (znw (zur (znw (zur (znw (zur (znw (zur (znw (zur (znw (zur (znw (zur (znw (zur (znw (zur (znw (zur (znw (zur (znw (zur (znw (zur (znw (zur (znw (zur (znw (zur (znw (zur (znw (zur (znw r q1) 1 th 0 (some q1)) q2) 2 th 0 (some q2)) q3) 3 th 0 (some q3)) q4) 4 th 0 (some q4)) q5) 5 th 0 (some q5)) q6) 6 th 0 (some q6)) q7) 8 th 0 (some q7)) q8) 9 th 0 (some q8)) q9) 10 th 0 (some q9)) q10) 11 th 0 (some q10)) q11) 12 th 0 (some q11)) q12) 13 th 0 (some q12)) q13) 14 th 0 (some q13)) q14) 15 th 0 (some q14)) q15) 16 th 0 (some q15)) q16) 17 th 0 (some q16)) q17) 18 th 0 (some q17)) q18) 19 th 0 (some q18)) q19) 20 th 0 (some q19)) q20) 21 th 0 (some q20)) q21) 22 th 0 (some q21)) q22) 23 th 0 (some q22)) q23) 24 th 0 (some q23)) q24) 25 th 0 (some q24)) q25) 26 th 0 (some q25)) q26) 27 th 0 (some q26)) q27) 28 th 0 (some q27)) q28) 29 th 0 (some q28)) q29) 30 th 0 (some q29)) q30) 31 th 0 (some q30)) q31) 32 th 0 (some q31)) q32) 33 th 0 (some q32)) q33) 34 th 0 (some q33)) q34) 45 th 0 (some q34)) q, o)) (lab := 146) (N' := 201) hx hb w3 hK hG.1 hC (by decide) (by decide) (by decide) (Nat.le_of_ble_eq_true rfl) (Nat.le_of_ble_eq_true rfl) (fun q => by rw [zc_146]; rw [zi_znq]) (fun q => zOff.mnw) dX7_init_310 (fun q35 H hq_q35 hC => ?_)
  have n_q35 : th ≠ q35 := fun e => by rw [e] at hk_th; omega
  have hk_th : (va_up (va_up (va_up (va_up (va_up (va_up (va_up (va_up (va_up (va_up (va_up (va_up (va_up (va_up (va_up (va_up (va_up (va_up (va_up (va_up (va_up (va_up (va_up (va_up (va_up (va_up (va_up (va_up (va_up (va_up (va_up (va_up (va_up (va_up (va_up K q1 101) q2 102) q3 103) q4 104) q5 105) q6 106) q7 108) q8 109) q9 110) q10 111) q11 112) q12 113) q13 114) q14 115) q15 116) q16 117) q17 118) q18 119) q19 120) q20 121) q21 122) q22 123) q23 124) q24 125) q25 126) q26 127) q27 128) q28 129) q29 130) q30 131) q31 132) q32 133) q33 134) q34 145) q35 146) th = 7 := zup_old hq_q35 hk_th (by decide)
  have hk_q35 : (va_up (va_up (va_up (va_up (va_up (va_up (va_up (va_up (va_up (va_up (va_up (va_up (va_up (va_up (va_up (va_up (va_up (va_up (va_up (va_up (va_up (va_up (va_up (va_up (va_up (va_up (va_up (va_up (va_up (va_up (va_up (va_up (va_up (va_up (va_up K q1 101) q2 102) q3 103) q4 104) q5 105) q6 106) q7 108) q8 109) q9 110) q10 111) q11 112) q12 113) q13 114) q14 115) q15 116) q16 117) q17 118) q18 119) q19 120) q20 121) q21 122) q22 123) q23 124) q24 125) q25 126) q26 127) q27 128) q28 129) q29 130) q30 131) q31 132) q32 133) q33 134) q34 145) q35 146) q35 = 146 := va_up_self _ _ _
  refine zp_7_46 (x := some q35) (r1 := (zur (znw (zur (znw (zur (znw (zur (znw (zur (znw (zur (znw (zur (znw (zur (znw (zur (znw (zur (znw (zur (znw (zur (znw (zur (znw (zur (znw (zur (znw (zur (znw (zur (znw (zur (znw (zur (znw (zur (znw (zur (znw (zur (znw (zur (znw (zur (znw (zur (znw (zur (znw (zur (znw (zur (znw (zur (znw (zur (znw (zur (znw (zur (znw (zur (znw (zur (znw (zur (znw r q1) 1 th 0 (some q1)) q2) 2 th 0 (some q2)) q3) 3 th 0 (some q3)) q4) 4 th 0 (some q4)) q5) 5 th 0 (some q5)) q6) 6 th 0 (some q6)) q7) 8 th 0 (some q7)) q8) 9 th 0 (some q8)) q9) 10 th 0 (some q9)) q10) 11 th 0 (some q10)) q11) 12 th 0 (some q11)) q12) 13 th 0 (some q12)) q13) 14 th 0 (some q13)) q14) 15 th 0 (some q14)) q15) 16 th 0 (some q15)) q16) 17 th 0 (some q16)) q17) 18 th 0 (some q17)) q18) 19 th 0 (some q18)) q19) 20 th 0 (some q19)) q20) 21 th 0 (some q20)) q21) 22 th 0 (some q21)) q22) 23 th 0 (some q22)) q23) 24 th 0 (some q23)) q24) 25 th 0 (some q24)) q25) 26 th 0 (some q25)) q26) 27 th 0 (some q26)) q27) 28 th 0 (some q27)) q28) 29 th 0 (some q28)) q29) 30 th 0 (some q29)) q30) 31 th 0 (some q30)) q31) 32 th 0 (some q31)) q32) 33 th 0 (some q32)) q33) 34 th 0 (some q33)) q34) 45 th 0 (some q34)) q35) 46 th 0 (some q35))) hx hb hts hi7 hown hK hC hk_th w41 hin2 rfl rfl dX7_init_312 (fun H locs hC => ?_)
  refine lv_aload_n hx hb dX7_init_315 rfl (lv_at hl 0 rfl) ?_
  refine lv_sipush (v := 200) hx hb dX7_init_316 (by decide) ?_
  refine z_newai (Zn := fun q => (c, znw (zur (znw (zur (znw (zur (znw (zur (znw (zur (znw (zur (znw (zur (znw (zur (znw (zur (znw (zur (znw (zur (znw (zur (znw (zur (znw (zur (znw (zur (znw (zur (znw (zur (znw (zur (znw (zur (znw (zur (znw (zur (znw (zur (znw (zur (znw (zur (znw (zur (znw (zur (znw (zur (znw (zur (znw (zur (znw (zur (znw (zur (znw (zur (znw (zur (znw (zur (znw (zur (znw r q1) 1 th 0 (some q1)) q2) 2 th 0 (some q2)) q3) 3 th 0 (some q3)) q4) 4 th 0 (some q4)) q5) 5 th 0 (some q5)) q6) 6 th 0 (some q6)) q7) 8 th 0 (some q7)) q8) 9 th 0 (some q8)) q9) 10 th 0 (some q9)) q10) 11 th 0 (some q10)) q11) 12 th 0 (some q11)) q12) 13 th 0 (some q12)) q13) 14 th 0 (some q13)) q14) 15 th 0 (some q14)) q15) 16 th 0 (some q15)) q16) 17 th 0 (some q16)) q17) 18 th 0 (some q17)) q18) 19 th 0 (some q18)) q19) 20 th 0 (some q19)) q20) 21 th 0 (some q20)) q21) 22 th 0 (some q21)) q22) 23 th 0 (some q22)) q23) 24 th 0 (some q23)) q24) 25 th 0 (some q24)) q25) 26 th 0 (some q25)) q26) 27 th 0 (some q26)) q27) 28 th 0 (some q27)) q28) 29 th 0 (some q28)) q29) 30 th 0 (some q29)) q30) 31 th 0 (some q30)) q31) 32 th 0 (some q31)) q32) 33 th 0 (some q32)) q33) 34 th 0 (some q33)) q34) 45 th 0 (some q34)) q35) 46 th 0 (some q35)) q, o)) (lab := 147) (N' := 200) hx hb w3 hK hG.1 hC (by decide) (by decide) (by decide) (Nat.le_of_ble_eq_true rfl) (Nat.le_of_ble_eq_true rfl) (fun q => by rw [zc_147]; rw [zi_znq]) (fun q => zOff.mnw) dX7_init_319 (fun q36 H hq_q36 hC => ?_)
  have n_q36 : th ≠ q36 := fun e => by rw [e] at hk_th; omega
  have hk_th : (va_up (va_up (va_up (va_up (va_up (va_up (va_up (va_up (va_up (va_up (va_up (va_up (va_up (va_up (va_up (va_up (va_up (va_up (va_up (va_up (va_up (va_up (va_up (va_up (va_up (va_up (va_up (va_up (va_up (va_up (va_up (va_up (va_up (va_up (va_up (va_up K q1 101) q2 102) q3 103) q4 104) q5 105) q6 106) q7 108) q8 109) q9 110) q10 111) q11 112) q12 113) q13 114) q14 115) q15 116) q16 117) q17 118) q18 119) q19 120) q20 121) q21 122) q22 123) q23 124) q24 125) q25 126) q26 127) q27 128) q28 129) q29 130) q30 131) q31 132) q32 133) q33 134) q34 145) q35 146) q36 147) th = 7 := zup_old hq_q36 hk_th (by decide)
  have hk_q36 : (va_up (va_up (va_up (va_up (va_up (va_up (va_up (va_up (va_up (va_up (va_up (va_up (va_up (va_up (va_up (va_up (va_up (va_up (va_up (va_up (va_up (va_up (va_up (va_up (va_up (va_up (va_up (va_up (va_up (va_up (va_up (va_up (va_up (va_up (va_up (va_up K q1 101) q2 102) q3 103) q4 104) q5 105) q6 106) q7 108) q8 109) q9 110) q10 111) q11 112) q12 113) q13 114) q14 115) q15 116) q16 117) q17 118) q18 119) q19 120) q20 121) q21 122) q22 123) q23 124) q24 125) q25 126) q26 127) q27 128) q28 129) q29 130) q30 131) q31 132) q32 133) q33 134) q34 145) q35 146) q36 147) q36 = 147 := va_up_self _ _ _
  refine zp_7_47 (x := some q36) (r1 := (zur (znw (zur (znw (zur (znw (zur (znw (zur (znw (zur (znw (zur (znw (zur (znw (zur (znw (zur (znw (zur (znw (zur (znw (zur (znw (zur (znw (zur (znw (zur (znw (zur (znw (zur (znw (zur (znw (zur (znw (zur (znw (zur (znw (zur (znw (zur (znw (zur (znw (zur (znw (zur (znw (zur (znw (zur (znw (zur (znw (zur (znw (zur (znw (zur (znw (zur (znw (zur (znw (zur (znw r q1) 1 th 0 (some q1)) q2) 2 th 0 (some q2)) q3) 3 th 0 (some q3)) q4) 4 th 0 (some q4)) q5) 5 th 0 (some q5)) q6) 6 th 0 (some q6)) q7) 8 th 0 (some q7)) q8) 9 th 0 (some q8)) q9) 10 th 0 (some q9)) q10) 11 th 0 (some q10)) q11) 12 th 0 (some q11)) q12) 13 th 0 (some q12)) q13) 14 th 0 (some q13)) q14) 15 th 0 (some q14)) q15) 16 th 0 (some q15)) q16) 17 th 0 (some q16)) q17) 18 th 0 (some q17)) q18) 19 th 0 (some q18)) q19) 20 th 0 (some q19)) q20) 21 th 0 (some q20)) q21) 22 th 0 (some q21)) q22) 23 th 0 (some q22)) q23) 24 th 0 (some q23)) q24) 25 th 0 (some q24)) q25) 26 th 0 (some q25)) q26) 27 th 0 (some q26)) q27) 28 th 0 (some q27)) q28) 29 th 0 (some q28)) q29) 30 th 0 (some q29)) q30) 31 th 0 (some q30)) q31) 32 th 0 (some q31)) q32) 33 th 0 (some q32)) q33) 34 th 0 (some q33)) q34) 45 th 0 (some q34)) q35) 46 th 0 (some q35)) q36) 47 th 0 (some q36))) hx hb hts hi7 hown hK hC hk_th w42 hin2 rfl rfl dX7_init_321 (fun H locs hC => ?_)
  refine lv_aload_n hx hb dX7_init_324 rfl (lv_at hl 0 rfl) ?_
  refine lv_sipush (v := 200) hx hb dX7_init_325 (by decide) ?_
  refine z_newai (Zn := fun q => (c, znw (zur (znw (zur (znw (zur (znw (zur (znw (zur (znw (zur (znw (zur (znw (zur (znw (zur (znw (zur (znw (zur (znw (zur (znw (zur (znw (zur (znw (zur (znw (zur (znw (zur (znw (zur (znw (zur (znw (zur (znw (zur (znw (zur (znw (zur (znw (zur (znw (zur (znw (zur (znw (zur (znw (zur (znw (zur (znw (zur (znw (zur (znw (zur (znw (zur (znw (zur (znw (zur (znw (zur (znw r q1) 1 th 0 (some q1)) q2) 2 th 0 (some q2)) q3) 3 th 0 (some q3)) q4) 4 th 0 (some q4)) q5) 5 th 0 (some q5)) q6) 6 th 0 (some q6)) q7) 8 th 0 (some q7)) q8) 9 th 0 (some q8)) q9) 10 th 0 (some q9)) q10) 11 th 0 (some q10)) q11) 12 th 0 (some q11)) q12) 13 th 0 (some q12)) q13) 14 th 0 (some q13)) q14) 15 th 0 (some q14)) q15) 16 th 0 (some q15)) q16) 17 th 0 (some q16)) q17) 18 th 0 (some q17)) q18) 19 th 0 (some q18)) q19) 20 th 0 (some q19)) q20) 21 th 0 (some q20)) q21) 22 th 0 (some q21)) q22) 23 th 0 (some q22)) q23) 24 th 0 (some q23)) q24) 25 th 0 (some q24)) q25) 26 th 0 (some q25)) q26) 27 th 0 (some q26)) q27) 28 th 0 (some q27)) q28) 29 th 0 (some q28)) q29) 30 th 0 (some q29)) q30) 31 th 0 (some q30)) q31) 32 th 0 (some q31)) q32) 33 th 0 (some q32)) q33) 34 th 0 (some q33)) q34) 45 th 0 (some q34)) q35) 46 th 0 (some q35)) q36) 47 th 0 (some q36)) q, o)) (lab := 149) (N' := 200) hx hb w3 hK hG.1 hC (by decide) (by decide) (by decide) (Nat.le_of_ble_eq_true rfl) (Nat.le_of_ble_eq_true rfl) (fun q => by rw [zc_149]; rw [zi_znq]) (fun q => zOff.mnw) dX7_init_328 (fun q37 H hq_q37 hC => ?_)
  have n_q37 : th ≠ q37 := fun e => by rw [e] at hk_th; omega
  have hk_th : (va_up (va_up (va_up (va_up (va_up (va_up (va_up (va_up (va_up (va_up (va_up (va_up (va_up (va_up (va_up (va_up (va_up (va_up (va_up (va_up (va_up (va_up (va_up (va_up (va_up (va_up (va_up (va_up (va_up (va_up (va_up (va_up (va_up (va_up (va_up (va_up (va_up K q1 101) q2 102) q3 103) q4 104) q5 105) q6 106) q7 108) q8 109) q9 110) q10 111) q11 112) q12 113) q13 114) q14 115) q15 116) q16 117) q17 118) q18 119) q19 120) q20 121) q21 122) q22 123) q23 124) q24 125) q25 126) q26 127) q27 128) q28 129) q29 130) q30 131) q31 132) q32 133) q33 134) q34 145) q35 146) q36 147) q37 149) th = 7 := zup_old hq_q37 hk_th (by decide)
  have hk_q37 : (va_up (va_up (va_up (va_up (va_up (va_up (va_up (va_up (va_up (va_up (va_up (va_up (va_up (va_up (va_up (va_up (va_up (va_up (va_up (va_up (va_up (va_up (va_up (va_up (va_up (va_up (va_up (va_up (va_up (va_up (va_up (va_up (va_up (va_up (va_up (va_up (va_up K q1 101) q2 102) q3 103) q4 104) q5 105) q6 106) q7 108) q8 109) q9 110) q10 111) q11 112) q12 113) q13 114) q14 115) q15 116) q16 117) q17 118) q18 119) q19 120) q20 121) q21 122) q22 123) q23 124) q24 125) q25 126) q26 127) q27 128) q28 129) q29 130) q30 131) q31 132) q32 133) q33 134) q34 145) q35 146) q36 147) q37 149) q37 = 149 := va_up_self _ _ _
  refine zp_7_49 (x := some q37) (r1 := (zur (znw (zur (znw (zur (znw (zur (znw (zur (znw (zur (znw (zur (znw (zur (znw (zur (znw (zur (znw (zur (znw (zur (znw (zur (znw (zur (znw (zur (znw (zur (znw (zur (znw (zur (znw (zur (znw (zur (znw (zur (znw (zur (znw (zur (znw (zur (znw (zur (znw (zur (znw (zur (znw (zur (znw (zur (znw (zur (znw (zur (znw (zur (znw (zur (znw (zur (znw (zur (znw (zur (znw (zur (znw r q1) 1 th 0 (some q1)) q2) 2 th 0 (some q2)) q3) 3 th 0 (some q3)) q4) 4 th 0 (some q4)) q5) 5 th 0 (some q5)) q6) 6 th 0 (some q6)) q7) 8 th 0 (some q7)) q8) 9 th 0 (some q8)) q9) 10 th 0 (some q9)) q10) 11 th 0 (some q10)) q11) 12 th 0 (some q11)) q12) 13 th 0 (some q12)) q13) 14 th 0 (some q13)) q14) 15 th 0 (some q14)) q15) 16 th 0 (some q15)) q16) 17 th 0 (some q16)) q17) 18 th 0 (some q17)) q18) 19 th 0 (some q18)) q19) 20 th 0 (some q19)) q20) 21 th 0 (some q20)) q21) 22 th 0 (some q21)) q22) 23 th 0 (some q22)) q23) 24 th 0 (some q23)) q24) 25 th 0 (some q24)) q25) 26 th 0 (some q25)) q26) 27 th 0 (some q26)) q27) 28 th 0 (some q27)) q28) 29 th 0 (some q28)) q29) 30 th 0 (some q29)) q30) 31 th 0 (some q30)) q31) 32 th 0 (some q31)) q32) 33 th 0 (some q32)) q33) 34 th 0 (some q33)) q34) 45 th 0 (some q34)) q35) 46 th 0 (some q35)) q36) 47 th 0 (some q36)) q37) 49 th 0 (some q37))) hx hb hts hi7 hown hK hC hk_th w43 hin2 rfl rfl dX7_init_330 (fun H locs hC => ?_)
  refine lv_aload_n hx hb dX7_init_333 rfl (lv_at hl 0 rfl) ?_
  refine lv_sipush (v := 200) hx hb dX7_init_334 (by decide) ?_
  refine z_newaz (Zn := fun q => (c, znw (zur (znw (zur (znw (zur (znw (zur (znw (zur (znw (zur (znw (zur (znw (zur (znw (zur (znw (zur (znw (zur (znw (zur (znw (zur (znw (zur (znw (zur (znw (zur (znw (zur (znw (zur (znw (zur (znw (zur (znw (zur (znw (zur (znw (zur (znw (zur (znw (zur (znw (zur (znw (zur (znw (zur (znw (zur (znw (zur (znw (zur (znw (zur (znw (zur (znw (zur (znw (zur (znw (zur (znw (zur (znw r q1) 1 th 0 (some q1)) q2) 2 th 0 (some q2)) q3) 3 th 0 (some q3)) q4) 4 th 0 (some q4)) q5) 5 th 0 (some q5)) q6) 6 th 0 (some q6)) q7) 8 th 0 (some q7)) q8) 9 th 0 (some q8)) q9) 10 th 0 (some q9)) q10) 11 th 0 (some q10)) q11) 12 th 0 (some q11)) q12) 13 th 0 (some q12)) q13) 14 th 0 (some q13)) q14) 15 th 0 (some q14)) q15) 16 th 0 (some q15)) q16) 17 th 0 (some q16)) q17) 18 th 0 (some q17)) q18) 19 th 0 (some q18)) q19) 20 th 0 (some q19)) q20) 21 th 0 (some q20)) q21) 22 th 0 (some q21)) q22) 23 th 0 (some q22)) q23) 24 th 0 (some q23)) q24) 25 th 0 (some q24)) q25) 26 th 0 (some q25)) q26) 27 th 0 (some q26)) q27) 28 th 0 (some q27)) q28) 29 th 0 (some q28)) q29) 30 th 0 (some q29)) q30) 31 th 0 (some q30)) q31) 32 th 0 (some q31)) q32) 33 th 0 (some q32)) q33) 34 th 0 (some q33)) q34) 45 th 0 (some q34)) q35) 46 th 0 (some q35)) q36) 47 th 0 (some q36)) q37) 49 th 0 (some q37)) q, o)) (lab := 150) (N' := 200) hx hb w9 hK hG.1 hC (by decide) (by decide) (by decide) (Nat.le_of_ble_eq_true rfl) (Nat.le_of_ble_eq_true rfl) (fun q => by rw [zc_150]; rw [zi_znq]) (fun q => zOff.mnw) dX7_init_337 (fun q38 H hq_q38 hC => ?_)
  have n_q38 : th ≠ q38 := fun e => by rw [e] at hk_th; omega
  have hk_th : (va_up (va_up (va_up (va_up (va_up (va_up (va_up (va_up (va_up (va_up (va_up (va_up (va_up (va_up (va_up (va_up (va_up (va_up (va_up (va_up (va_up (va_up (va_up (va_up (va_up (va_up (va_up (va_up (va_up (va_up (va_up (va_up (va_up (va_up (va_up (va_up (va_up (va_up K q1 101) q2 102) q3 103) q4 104) q5 105) q6 106) q7 108) q8 109) q9 110) q10 111) q11 112) q12 113) q13 114) q14 115) q15 116) q16 117) q17 118) q18 119) q19 120) q20 121) q21 122) q22 123) q23 124) q24 125) q25 126) q26 127) q27 128) q28 129) q29 130) q30 131) q31 132) q32 133) q33 134) q34 145) q35 146) q36 147) q37 149) q38 150) th = 7 := zup_old hq_q38 hk_th (by decide)
  have hk_q38 : (va_up (va_up (va_up (va_up (va_up (va_up (va_up (va_up (va_up (va_up (va_up (va_up (va_up (va_up (va_up (va_up (va_up (va_up (va_up (va_up (va_up (va_up (va_up (va_up (va_up (va_up (va_up (va_up (va_up (va_up (va_up (va_up (va_up (va_up (va_up (va_up (va_up (va_up K q1 101) q2 102) q3 103) q4 104) q5 105) q6 106) q7 108) q8 109) q9 110) q10 111) q11 112) q12 113) q13 114) q14 115) q15 116) q16 117) q17 118) q18 119) q19 120) q20 121) q21 122) q22 123) q23 124) q24 125) q25 126) q26 127) q27 128) q28 129) q29 130) q30 131) q31 132) q32 133) q33 134) q34 145) q35 146) q36 147) q37 149) q38 150) q38 = 150 := va_up_self _ _ _
  refine zp_7_50 (x := some q38) (r1 := (zur (znw (zur (znw (zur (znw (zur (znw (zur (znw (zur (znw (zur (znw (zur (znw (zur (znw (zur (znw (zur (znw (zur (znw (zur (znw (zur (znw (zur (znw (zur (znw (zur (znw (zur (znw (zur (znw (zur (znw (zur (znw (zur (znw (zur (znw (zur (znw (zur (znw (zur (znw (zur (znw (zur (znw (zur (znw (zur (znw (zur (znw (zur (znw (zur (znw (zur (znw (zur (znw (zur (znw (zur (znw (zur (znw r q1) 1 th 0 (some q1)) q2) 2 th 0 (some q2)) q3) 3 th 0 (some q3)) q4) 4 th 0 (some q4)) q5) 5 th 0 (some q5)) q6) 6 th 0 (some q6)) q7) 8 th 0 (some q7)) q8) 9 th 0 (some q8)) q9) 10 th 0 (some q9)) q10) 11 th 0 (some q10)) q11) 12 th 0 (some q11)) q12) 13 th 0 (some q12)) q13) 14 th 0 (some q13)) q14) 15 th 0 (some q14)) q15) 16 th 0 (some q15)) q16) 17 th 0 (some q16)) q17) 18 th 0 (some q17)) q18) 19 th 0 (some q18)) q19) 20 th 0 (some q19)) q20) 21 th 0 (some q20)) q21) 22 th 0 (some q21)) q22) 23 th 0 (some q22)) q23) 24 th 0 (some q23)) q24) 25 th 0 (some q24)) q25) 26 th 0 (some q25)) q26) 27 th 0 (some q26)) q27) 28 th 0 (some q27)) q28) 29 th 0 (some q28)) q29) 30 th 0 (some q29)) q30) 31 th 0 (some q30)) q31) 32 th 0 (some q31)) q32) 33 th 0 (some q32)) q33) 34 th 0 (some q33)) q34) 45 th 0 (some q34)) q35) 46 th 0 (some q35)) q36) 47 th 0 (some q36)) q37) 49 th 0 (some q37)) q38) 50 th 0 (some q38))) hx hb hts hi7 hown hK hC hk_th w44 hin2 rfl rfl dX7_init_339 (fun H locs hC => ?_)
  exact z_vretB (P := fun K1 L1 c1 => g_X7_init K L r th K1 L1 c1) hx hb hr hlocks hC ⟨q1, hq_q1, q2, hq_q2, q3, hq_q3, q4, hq_q4, q5, hq_q5, q6, hq_q6, q7, hq_q7, q8, hq_q8, q9, hq_q9, q10, hq_q10, q11, hq_q11, q12, hq_q12, q13, hq_q13, q14, hq_q14, q15, hq_q15, q16, hq_q16, q17, hq_q17, q18, hq_q18, q19, hq_q19, q20, hq_q20, q21, hq_q21, q22, hq_q22, q23, hq_q23, q24, hq_q24, q25, hq_q25, q26, hq_q26, q27, hq_q27, q28, hq_q28, q29, hq_q29, q30, hq_q30, q31, hq_q31, q32, hq_q32, q33, hq_q33, q34, hq_q34, q35, hq_q35, q36, hq_q36, q37, hq_q37, q38, hq_q38, rfl, rfl, rfl⟩ dX7_init_342
theorem g_X0_init_keep {K : Nat → Nat} {L : List Nat} {c : zS} {th : Nat} {K9 : Nat → Nat} {L9 : List Nat} {c9 : zS} (h : g_X0_init K L c th K9 L9 c9) (f a : Nat) (hf : 120 ≤ f) (ha : K a < 255) : zr c9 f a 0 = zr c f a 0 := by
  obtain ⟨q1, hq1, q2, hq2, rfl, rfl, rfl⟩ := h
  have e1 : a ≠ q1 := fun e => by rw [e] at ha; omega
  have e2 : a ≠ q2 := fun e => by rw [← e, va_up_ne _ _ e1] at hq2; omega
  rw [zr_zur, if_neg (fun x => by omega), zr_znw, if_neg e2, zr_zur, if_neg (fun x => by omega), zr_znw, if_neg e1]
theorem g_X5_init_keep {K : Nat → Nat} {L : List Nat} {c : zS} {th : Nat} {K9 : Nat → Nat} {L9 : List Nat} {c9 : zS} (h : g_X5_init K L c th K9 L9 c9) (f a : Nat) (hf : 120 ≤ f) (ha : K a < 255) : zr c9 f a 0 = zr c f a 0 := by
  obtain ⟨q1, hq1, q2, hq2, rfl, rfl, rfl⟩ := h
  have e1 : a ≠ q1 := fun e => by rw [e] at ha; omega
  have e2 : a ≠ q2 := fun e => by rw [← e, va_up_ne _ _ e1] at hq2; omega
  rw [zr_zur, if_neg (fun x => by omega), zr_znw, if_neg e2, zr_zur, if_neg (fun x => by omega), zr_znw, if_neg e1]
theorem g_X2_init_keep {K : Nat → Nat} {L : List Nat} {c : zS} {th : Nat} {K9 : Nat → Nat} {L9 : List Nat} {c9 : zS} (h : g_X2_init K L c th K9 L9 c9) (f a : Nat) (hf : 120 ≤ f) (ha : K a < 255) : zr c9 f a 0 = zr c f a 0 := by
  obtain ⟨q1, hq1, rfl, rfl, rfl⟩ := h
  have e1 : a ≠ q1 := fun e => by rw [e] at ha; omega
  rw [zr_zur, if_neg (fun x => by omega), zr_znw, if_neg e1]
theorem g_X4_init_keep {K : Nat → Nat} {L : List Nat} {c : zS} {th : Nat} {p1 p2 : Int32} {t3 : Nat} {p4 p5 : Int32} {K9 : Nat → Nat} {L9 : List Nat} {c9 : zS} (h : g_X4_init K L c th p1 p2 t3 p4 p5 K9 L9 c9) (f a : Nat) (hf : 120 ≤ f) (ha : K a < 255) : zr c9 f a 0 = zr c f a 0 := by
  obtain ⟨q1, hq1, q2, hq2, K3, L3, c3, h3, q4, hq4, K5, L5, c5, h5, rfl, rfl, rfl⟩ := h
  have e1 : a ≠ q1 := fun e => by rw [e] at ha; omega
  have k1 : va_up K q1 1 a = K a := va_up_ne _ _ e1
  have e2 : a ≠ q2 := fun e => by rw [← e, k1] at hq2; omega
  have k2 : va_up (va_up K q1 1) q2 5 a = K a := (va_up_ne _ _ e2).trans k1
  have k3 : K3 a = K a := (g_X5_init_old h3 a (by rw [k2]; exact ha)).trans k2
  have e4 : a ≠ q4 := fun e => by rw [← e, k3] at hq4; omega
  have k4 : va_up K3 q4 2 a = K a := (va_up_ne _ _ e4).trans k3
  have s3 := g_X5_init_keep h3 f a hf (by rw [k2]; exact ha)
  have s5 := g_X2_init_keep h5 f a hf (by rw [k4]; exact ha)
  have n1 : ∀ n : Nat, n < 120 → ∀ b : Nat, ¬ (f = n ∧ a = b ∧ 0 = 0) := fun n hn b x => by omega
  simp only [zr_zui, zr_zur, if_neg (n1 81 (by decide) _), if_neg (n1 85 (by decide) _)]
  rw [s5, zr_znw, if_neg e4, zr_zur, if_neg (n1 84 (by decide) _), s3, zr_znw, if_neg e2, zr_zur, if_neg (n1 83 (by decide) _), zr_znw, if_neg e1]
def g_X6_rows (aR : Nat) : Nat → (Nat → Nat) → List Nat → zS → (Nat → Nat) → List Nat → zS → Prop
  | 0, K, L, c, K9, L9, c9 => K9 = K ∧ L9 = L ∧ c9 = c
  | n + 1, K, L, c, K9, L9, c9 => ∃ (K1 : Nat → Nat) (L1 : List Nat) (c1 : zS), g_X6_rows aR n K L c K1 L1 c1 ∧ ∃ q : Nat, 255 ≤ K1 q ∧ ∃ c2 : zS, g_X0_init (va_up K1 q 0) (L1 ++ [q]) (znw c1 q) q K9 L9 c2 ∧ c9 = zur c2 143 aR n (some q)
theorem g_X6_rows_old {aR : Nat} : ∀ {n : Nat} {K : Nat → Nat} {L : List Nat} {c : zS} {K9 : Nat → Nat} {L9 : List Nat} {c9 : zS}, g_X6_rows aR n K L c K9 L9 c9 → ∀ a, K a < 255 → K9 a = K a
  | 0, _, _, _, _, _, _, h, a, _ => by rw [h.1]
  | n + 1, K, L, c, K9, L9, c9, h, a, ha => by
    obtain ⟨K1, L1, c1, h1, q, hq, c2, h2, -⟩ := h
    have e1 := g_X6_rows_old h1 a ha
    have e2 := zup_old (k := 0) hq e1 ha
    exact (g_X0_init_old h2 a (by rw [e2]; exact ha)).trans e2
def g_X6_init (K : Nat → Nat) (L : List Nat) (c : zS) (th : Nat) (K9 : Nat → Nat) (L9 : List Nat) (c9 : zS) : Prop :=
  ∃ q1 : Nat, 255 ≤ K q1 ∧ ∃ q2 : Nat, 255 ≤ (va_up K q1 11) q2 ∧ ∃ q3 : Nat, 255 ≤ (va_up (va_up K q1 11) q2 12) q3 ∧ ∃ q4 : Nat, 255 ≤ (va_up (va_up (va_up K q1 11) q2 12) q3 13) q4 ∧ ∃ q5 : Nat, 255 ≤ (va_up (va_up (va_up (va_up K q1 11) q2 12) q3 13) q4 14) q5 ∧ ∃ (K8 : Nat → Nat) (L8 : List Nat) (c8 : zS), g_X6_rows q1 40 (va_up (va_up (va_up (va_up (va_up K q1 11) q2 12) q3 13) q4 14) q5 15) (((((L ++ [q1]) ++ [q2]) ++ [q3]) ++ [q4]) ++ [q5]) (zur (znw (zur (znw (zur (znw (zur (znw (zur (znw c q1) 120 th 0 (some q1)) q2) 121 th 0 (some q2)) q3) 122 th 0 (some q3)) q4) 123 th 0 (some q4)) q5) 124 th 0 (some q5)) K8 L8 c8 ∧ K9 = K8 ∧ L9 = L8 ∧ c9 = c8
theorem g_X6_init_old {K : Nat → Nat} {L : List Nat} {c : zS} {th : Nat} {K9 : Nat → Nat} {L9 : List Nat} {c9 : zS} (h : g_X6_init K L c th K9 L9 c9) : ∀ a, K a < 255 → K9 a = K a := by
  obtain ⟨q1, hq_q1, q2, hq_q2, q3, hq_q3, q4, hq_q4, q5, hq_q5, K8, L8, c8, h8, rfl, rfl, rfl⟩ := h
  intro a ha
  have h0 : K a < 255 := ha
  have e0 : K a = K a := rfl
  have e1 := zup_old (k := 11) hq_q1 e0 ha
  have e2 := zup_old (k := 12) hq_q2 e1 ha
  have e3 := zup_old (k := 13) hq_q3 e2 ha
  have e4 := zup_old (k := 14) hq_q4 e3 ha
  have e5 := zup_old (k := 15) hq_q5 e4 ha
  have e6 := (g_X6_rows_old h8 a (by rw [e5]; exact ha)).trans e5
  exact e6
set_option maxRecDepth 100000 in
set_option maxHeartbeats 4000000 in
theorem c_X6_init {l : Launch} {D : va_G} {cy : Nat → ClassId} {base : Nat} {st : Nat → Nat} {K : Nat → Nat} {L : List Nat} {c r : zS} {o : Int64} (th : Nat) (hk_th : K th = 6) : Met l yX6_init wsX6_init ({ frames := 2, cells := 125, slots := 16780, locals := 44 }) (va_Pc [.ref th] (zGW zts0 zns0 D cy base st K L (c, r, o))) (va_Qv (fun (u : (Nat → Nat) × List Nat × zS) => g_X6_init K L c th u.1 u.2.1 u.2.2) (fun u => zB D cy base u.1 u.2.1 (u.2.2, r, o)) (zA base)) 125 16780 (zA base) := by
  refine Met.ofW (cc := cX6_init) (maxL := 2) (ret := none) (by decide) rfl ?_
  intro p e s m args below meth cd s₁ B hml hv
  obtain ⟨rfl, hG⟩ := hv
  have hx := B.exec
  have hb := B.bytes
  have hr := B.returns
  have hts := atoms_spec (ws := wsX6_init) B.pre
  have hown : s.vm.findClass RX6 = some m.cls := findClass_of_methodNamed B.named
  have hlocks := B.notSynchronized
  have hin2 : meth.name = "<init>" := (name_of_methodNamed B.named B.method).1
  have hC := hG.enter
  have hK := hG.2.2.2.1
  have hi0 : ∀ w ∈ wsX00, w ∈ wsX6_init := by decide +kernel
  have hi6 : ∀ w ∈ wsX60, w ∈ wsX6_init := by decide +kernel
  have w0 := hts (.methodLink RX6 3 objectInit) (by decide +kernel)
  have w1 := hts (.instanceMethod objectInit) (by decide +kernel)
  have w2 := hts (.code objectInit ⟨#[0xb1]⟩ 1 none) (by decide +kernel)
  have w3 := hts (.classLink RX6 9 RX0) (by decide +kernel)
  have w4 := hts (.fieldLink RX6 11 "MarketSquare" "rows" "[LMarketSquare$Row;") (by decide +kernel)
  have w5 := hts (.classLink RX6 15 RX3) (by decide +kernel)
  have w6 := hts (.fieldLink RX6 17 "MarketSquare" "trades" "[LMarketSquare$Trade;") (by decide +kernel)
  have w7 := hts (.classLink RX6 21 RX4) (by decide +kernel)
  have w8 := hts (.fieldLink RX6 23 "MarketSquare" "traders" "[LMarketSquare$Trader;") (by decide +kernel)
  have w9 := hts (.fieldLink RX6 27 "MarketSquare" "ranked" "[LMarketSquare$Trader;") (by decide +kernel)
  have w10 := hts (.fieldLink RX6 30 "MarketSquare" "line" "[LMarketSquare$Trader;") (by decide +kernel)
  have w11 := hts (.instantiable RX0 3) (by decide +kernel)
  have w12 := hts (.initialized RX0) (by decide +kernel)
  have w13 := hts (.instanceMethod yX0_init) (by decide +kernel)
  have hl := lv_entry ([.ref th]) (n := 2) (Nat.le_of_ble_eq_true rfl)
  rw [lg_entry_eq]
  generalize (lg_sl ([.ref th]) ++ List.replicate (2 - (lg_sl ([.ref th])).length) Slot.unset).toArray = ls at hl ⊢
  have hl : lv_has ls 2 [(0, .ref th)] := hl
  refine lv_aload_n hx hb dX6_init_0 rfl (lv_at hl 0 rfl) ?_
  refine z_obj hx hb hown w0 w1 w2 (by rw [hml]; exact hl.1) dX6_init_1 (Nat.le_of_ble_eq_true rfl) (Nat.le_of_ble_eq_true rfl) ?_
  refine lv_aload_n hx hb dX6_init_4 rfl (lv_at hl 0 rfl) ?_
  refine lv_bipush (v := 40) hx hb dX6_init_5 (by decide) ?_
  refine z_newq (Zn := fun q => (znw c q, r, o)) (lab := 11) (N' := 40) (ti := 4) (C := RX0) hx hb hown w3 (hG.2.2.2.2.2.2.2.2.2.2.2.1 _ (by decide +kernel)) hK rfl hG.1 hC (by decide) (by decide) (by decide) (Nat.le_of_ble_eq_true rfl) (Nat.le_of_ble_eq_true rfl) (fun q => by rw [zc_11]; rw [zr_znq]) (fun q => zOff.nw) dX6_init_7 (fun q1 H hq_q1 hC => ?_)
  have n_q1 : th ≠ q1 := fun e => by rw [e] at hk_th; omega
  have hk_th : (va_up K q1 11) th = 6 := zup_old hq_q1 hk_th (by decide)
  have hk_q1 : (va_up K q1 11) q1 = 11 := va_up_self _ _ _
  refine zp_6_0 (x := some q1) (c1 := (zur (znw c q1) 120 th 0 (some q1))) hx hb hts hi6 hown hK hC hk_th w4 hin2 rfl rfl dX6_init_10 (fun H locs hC => ?_)
  refine lv_aload_n hx hb dX6_init_13 rfl (lv_at hl 0 rfl) ?_
  refine lv_bipush (v := 20) hx hb dX6_init_14 (by decide) ?_
  refine z_newq (Zn := fun q => (znw (zur (znw c q1) 120 th 0 (some q1)) q, r, o)) (lab := 12) (N' := 20) (ti := 5) (C := RX3) hx hb hown w5 (hG.2.2.2.2.2.2.2.2.2.2.2.1 _ (by decide +kernel)) hK rfl hG.1 hC (by decide) (by decide) (by decide) (Nat.le_of_ble_eq_true rfl) (Nat.le_of_ble_eq_true rfl) (fun q => by rw [zc_12]; rw [zr_znq]) (fun q => zOff.nw) dX6_init_16 (fun q2 H hq_q2 hC => ?_)
  have n_q2 : th ≠ q2 := fun e => by rw [e] at hk_th; omega
  have hk_th : (va_up (va_up K q1 11) q2 12) th = 6 := zup_old hq_q2 hk_th (by decide)
  have hk_q1 : (va_up (va_up K q1 11) q2 12) q1 = 11 := zup_old hq_q2 hk_q1 (by decide)
  have hk_q2 : (va_up (va_up K q1 11) q2 12) q2 = 12 := va_up_self _ _ _
  refine zp_6_1 (x := some q2) (c1 := (zur (znw (zur (znw c q1) 120 th 0 (some q1)) q2) 121 th 0 (some q2))) hx hb hts hi6 hown hK hC hk_th w6 hin2 rfl rfl dX6_init_19 (fun H locs hC => ?_)
  refine lv_aload_n hx hb dX6_init_22 rfl (lv_at hl 0 rfl) ?_
  refine lv_sipush (v := 200) hx hb dX6_init_23 (by decide) ?_
  refine z_newq (Zn := fun q => (znw (zur (znw (zur (znw c q1) 120 th 0 (some q1)) q2) 121 th 0 (some q2)) q, r, o)) (lab := 13) (N' := 200) (ti := 6) (C := RX4) hx hb hown w7 (hG.2.2.2.2.2.2.2.2.2.2.2.1 _ (by decide +kernel)) hK rfl hG.1 hC (by decide) (by decide) (by decide) (Nat.le_of_ble_eq_true rfl) (Nat.le_of_ble_eq_true rfl) (fun q => by rw [zc_13]; rw [zr_znq]) (fun q => zOff.nw) dX6_init_26 (fun q3 H hq_q3 hC => ?_)
  have n_q3 : th ≠ q3 := fun e => by rw [e] at hk_th; omega
  have hk_th : (va_up (va_up (va_up K q1 11) q2 12) q3 13) th = 6 := zup_old hq_q3 hk_th (by decide)
  have hk_q1 : (va_up (va_up (va_up K q1 11) q2 12) q3 13) q1 = 11 := zup_old hq_q3 hk_q1 (by decide)
  have hk_q3 : (va_up (va_up (va_up K q1 11) q2 12) q3 13) q3 = 13 := va_up_self _ _ _
  refine zp_6_2 (x := some q3) (c1 := (zur (znw (zur (znw (zur (znw c q1) 120 th 0 (some q1)) q2) 121 th 0 (some q2)) q3) 122 th 0 (some q3))) hx hb hts hi6 hown hK hC hk_th w8 hin2 rfl rfl dX6_init_29 (fun H locs hC => ?_)
  refine lv_aload_n hx hb dX6_init_32 rfl (lv_at hl 0 rfl) ?_
  refine lv_sipush (v := 200) hx hb dX6_init_33 (by decide) ?_
  refine z_newq (Zn := fun q => (znw (zur (znw (zur (znw (zur (znw c q1) 120 th 0 (some q1)) q2) 121 th 0 (some q2)) q3) 122 th 0 (some q3)) q, r, o)) (lab := 14) (N' := 200) (ti := 6) (C := RX4) hx hb hown w7 (hG.2.2.2.2.2.2.2.2.2.2.2.1 _ (by decide +kernel)) hK rfl hG.1 hC (by decide) (by decide) (by decide) (Nat.le_of_ble_eq_true rfl) (Nat.le_of_ble_eq_true rfl) (fun q => by rw [zc_14]; rw [zr_znq]) (fun q => zOff.nw) dX6_init_36 (fun q4 H hq_q4 hC => ?_)
  have n_q4 : th ≠ q4 := fun e => by rw [e] at hk_th; omega
  have hk_th : (va_up (va_up (va_up (va_up K q1 11) q2 12) q3 13) q4 14) th = 6 := zup_old hq_q4 hk_th (by decide)
  have hk_q1 : (va_up (va_up (va_up (va_up K q1 11) q2 12) q3 13) q4 14) q1 = 11 := zup_old hq_q4 hk_q1 (by decide)
  have hk_q4 : (va_up (va_up (va_up (va_up K q1 11) q2 12) q3 13) q4 14) q4 = 14 := va_up_self _ _ _
  refine zp_6_3 (x := some q4) (c1 := (zur (znw (zur (znw (zur (znw (zur (znw c q1) 120 th 0 (some q1)) q2) 121 th 0 (some q2)) q3) 122 th 0 (some q3)) q4) 123 th 0 (some q4))) hx hb hts hi6 hown hK hC hk_th w9 hin2 rfl rfl dX6_init_39 (fun H locs hC => ?_)
  refine lv_aload_n hx hb dX6_init_42 rfl (lv_at hl 0 rfl) ?_
  refine lv_sipush (v := 200) hx hb dX6_init_43 (by decide) ?_
  refine z_newq (Zn := fun q => (znw (zur (znw (zur (znw (zur (znw (zur (znw c q1) 120 th 0 (some q1)) q2) 121 th 0 (some q2)) q3) 122 th 0 (some q3)) q4) 123 th 0 (some q4)) q, r, o)) (lab := 15) (N' := 200) (ti := 6) (C := RX4) hx hb hown w7 (hG.2.2.2.2.2.2.2.2.2.2.2.1 _ (by decide +kernel)) hK rfl hG.1 hC (by decide) (by decide) (by decide) (Nat.le_of_ble_eq_true rfl) (Nat.le_of_ble_eq_true rfl) (fun q => by rw [zc_15]; rw [zr_znq]) (fun q => zOff.nw) dX6_init_46 (fun q5 H hq_q5 hC => ?_)
  have n_q5 : th ≠ q5 := fun e => by rw [e] at hk_th; omega
  have hk_th : (va_up (va_up (va_up (va_up (va_up K q1 11) q2 12) q3 13) q4 14) q5 15) th = 6 := zup_old hq_q5 hk_th (by decide)
  have hk_q1 : (va_up (va_up (va_up (va_up (va_up K q1 11) q2 12) q3 13) q4 14) q5 15) q1 = 11 := zup_old hq_q5 hk_q1 (by decide)
  have hk_q5 : (va_up (va_up (va_up (va_up (va_up K q1 11) q2 12) q3 13) q4 14) q5 15) q5 = 15 := va_up_self _ _ _
  refine zp_6_4 (x := some q5) (c1 := (zur (znw (zur (znw (zur (znw (zur (znw (zur (znw c q1) 120 th 0 (some q1)) q2) 121 th 0 (some q2)) q3) 122 th 0 (some q3)) q4) 123 th 0 (some q4)) q5) 124 th 0 (some q5))) hx hb hts hi6 hown hK hC hk_th w10 hin2 rfl rfl dX6_init_49 (fun H locs hC => ?_)
  refine lv_iconst (v := 0) hx hb dX6_init_52 (by decide) ?_
  refine lv_istore_n (lv' := [(1, .int 0), (0, .ref th)]) hx hb dX6_init_53 rfl hl (by decide) rfl (fun ls hl => ?_)
  have LOOP : ∀ (k i : Nat), i + k = 40 → ∀ (Ki : Nat → Nat) (Li : List Nat) (ci : zS) (H : Heap) (locs : List Loc) (ls : Array Slot), g_X6_rows q1 i (va_up (va_up (va_up (va_up (va_up K q1 11) q2 12) q3 13) q4 14) q5 15) (((((L ++ [q1]) ++ [q2]) ++ [q3]) ++ [q4]) ++ [q5]) (zur (znw (zur (znw (zur (znw (zur (znw (zur (znw c q1) 120 th 0 (some q1)) q2) 121 th 0 (some q2)) q3) 122 th 0 (some q3)) q4) 123 th 0 (some q4)) q5) 124 th 0 (some q5)) Ki Li ci → Ki th = 6 → Ki q1 = 11 → zr ci 120 th 0 = some q1 → zC D cy base Ki Li (ci, r, o) s.heap H locs → lv_has ls 2 [(1, .int (nI i)), (0, .ref th)] → W p l e (headSpec wsX6_init ({ frames := 2, cells := 125, slots := 16780, locals := 44 })).room s m ([.ref th] : List Value).toArray below meth cd H locs (5 + 3 * i) (660 + 403 * i) (MQ below (va_Qv (fun (u : (Nat → Nat) × List Nat × zS) => g_X6_init K L c th u.1 u.2.1 u.2.2) (fun u => zB D cy base u.1 u.2.1 (u.2.2, r, o)) (zA base)) ([.ref th] : List Value).toArray s 125 16780 (zA base)) (F0 m 54 ls []) := by
    intro k
    induction k with
    | zero =>
      intro i hi Ki Li ci H locs ls hg hk1 hk2 hrow hC hl
      have hi40 : i = 40 := by omega
      subst hi40
      refine lv_iload_n hx hb dX6_init_54 rfl (lv_at hl 0 rfl) ?_
      refine lv_bipush (v := 40) hx hb dX6_init_55 (by decide) ?_
      refine lv_icmp_ge (tgt := 79) hx hb dX6_init_57 (by decide) (fun h => ?_) (fun h => ?_)
      · exact z_vretA (P := fun K1 L1 c1 => g_X6_init K L c th K1 L1 c1) hx hb hr hlocks hC ⟨q1, hq_q1, q2, hq_q2, q3, hq_q3, q4, hq_q4, q5, hq_q5, Ki, Li, ci, hg, rfl, rfl, rfl⟩ dX6_init_79
      · exact absurd (show (40 : Int32) ≤ nI 40 by decide) h
    | succ k ih =>
      intro i hi Ki Li ci H locs ls hg hk1 hk2 hrow hC hl
      have hlt : i < 40 := by omega
      refine lv_iload_n hx hb dX6_init_54 rfl (lv_at hl 0 rfl) ?_
      refine lv_bipush (v := 40) hx hb dX6_init_55 (by decide) ?_
      refine lv_icmp_ge (tgt := 79) hx hb dX6_init_57 (by decide) (fun h => absurd h (nI_ge (a := i) (b := 40) hlt (by decide))) (fun h => ?_)
      refine lv_aload_n hx hb dX6_init_60 rfl (lv_at hl 1 rfl) ?_
      refine zg_6_0 hx hb hts hi6 hown hK hC hk1 w4 dX6_init_61 ?_
      refine z_ref hrow ?_
      refine lv_iload_n hx hb dX6_init_64 rfl (lv_at hl 0 rfl) ?_
      refine z_new (Zn := fun q => (znw ci q, r, o)) (ci := 0) (C := RX0) (T := TX0) (N := 3) (fs := [.null, .null, .int 0]) hx hb hts hi0 tyX0 tyX0_ok hown w3 w11 w12 hK hG.1 hC rfl (fun j hj => by rcases (show j = 0 ∨ j = 1 ∨ j = 2 by omega) with rfl | rfl | rfl <;> rfl) (fun q => by rw [zc_0]; simp [zi_znw, zl_znw, zr_znw, va_rf]) (fun q => zOff.nw) (show 5 + 3 * i + 1 ≤ 125 by omega) (show 660 + 403 * i + 3 ≤ 16780 by omega) dX6_init_65 (fun q H hq hC => ?_)
      have hk1q : va_up Ki q 0 th = 6 := zup_old hq hk1 (by decide)
      have hk2q : va_up Ki q 0 q1 = 11 := zup_old hq hk2 (by decide)
      have hkq : va_up Ki q 0 q = 0 := va_up_self _ _ _
      refine lv_dup hx hb dX6_init_68 rfl ?_
      refine z_cvA (z_rIN (As := []) (rest := [.ref q, .int (nI i), .ref q1]) ⟨hx, hb, hml, hown, hts⟩ (c_X0_init (l := l) (D := D) (cy := cy) (base := base) (st := st) (K := va_up Ki q 0) (L := Li ++ [q]) (c := znw ci q) (r := r) (o := o) q hkq) ⟨va_cnB 0 hts gX6_init_X0_init_n33 rfl rfl rfl (hG.2.2.2.2.2.2.2.2.1 _ (List.mem_of_getElem? (i := 0) rfl)) w12 (by decide +kernel) ⟨(Nat.le_of_ble_eq_true rfl), (Nat.le_of_ble_eq_true rfl)⟩, rfl, w13⟩ hG hC rfl hl.1 rfl (lv_room (Nat.le_of_ble_eq_true rfl)) dX6_init_69 ⟨show 5 + 3 * i + 1 + 2 ≤ 125 by omega, show 660 + 403 * i + 3 + 400 ≤ 16780 by omega⟩) hC (fun K1 L1 c1 H locs hP hC => ?_)
      have hk1 : K1 th = 6 := (g_X0_init_old hP _ (by rw [hk1q]; decide)).trans hk1q
      have hk2 : K1 q1 = 11 := (g_X0_init_old hP _ (by rw [hk2q]; decide)).trans hk2q
      have hkq2 : K1 q = 0 := (g_X0_init_old hP _ (by rw [hkq]; decide)).trans hkq
      have hne : th ≠ q := fun e => by rw [e] at hk1q; rw [hkq] at hk1q; cases hk1q
      refine xp_11 (c1 := zur c1 143 q1 i (some q)) hx hb hK hC hk2 (vp_in_nI hlt (by decide)) hkq2 (by rw [nI_clamp (by omega)]) dX6_init_72 (fun H locs hC => ?_)
      refine lv_iinc (v := nI (i + 1)) (lv' := [(1, .int (nI (i + 1))), (0, .ref th)]) hx hb dX6_init_73 hl (k := 0) rfl (nI_1 i) (by decide) rfl (fun ls hl => ?_)
      refine lv_goto (tgt := 54) hx hb dX6_init_76 (by decide) ?_
      refine W.widen (k := 5 + 3 * (i + 1)) (n := 660 + 403 * (i + 1)) (by omega) (by omega) ?_
      refine ih (i + 1) (by omega) K1 L1 _ _ _ _ ⟨Ki, Li, ci, hg, q, hq, c1, hP, rfl⟩ hk1 hk2 ?_ hC hl
      rw [zr_zur, if_neg (by decide)]
      exact (g_X0_init_keep hP 120 th (by decide) (by rw [hk1q]; decide)).trans ((by rw [zr_znw, if_neg hne] : zr (znw ci q) 120 th 0 = zr ci 120 th 0).trans hrow)
  exact LOOP 40 0 rfl _ _ _ _ _ _ ⟨rfl, rfl, rfl⟩ hk_th hk_q1 (by simp [zr_zur, zr_znw, n_q2, n_q3, n_q4, n_q5]) hC hl
def g_X6_trade (K : Nat → Nat) (L : List Nat) (c : zS) (th : Nat) (p1 : Int32) (p2 : Int32) (p3 : Int32) (a9 : Nat) (rr : Int32) (K9 : Nat → Nat) (L9 : List Nat) (c9 : zS) : Prop :=
  ∃ q : Nat, 255 ≤ K q ∧ K9 = (va_up K q 3) ∧ L9 = (L ++ [q]) ∧ c9 = (zui (zur (zui (zui (zui (zui (znw c q) 60 q 0 (zi c 125 th 0)) 61 q 0 p1) 62 q 0 p2) 63 q 0 p3) 144 a9 (Int32.toNatClampNeg (zi c 125 th 0)) (some q)) 125 th 0 ((zi (zur (zui (zui (zui (zui (znw c q) 60 q 0 (zi c 125 th 0)) 61 q 0 p1) 62 q 0 p2) 63 q 0 p3) 144 a9 (Int32.toNatClampNeg (zi c 125 th 0)) (some q)) 125 th 0) + 1)) ∧ rr = (zi c 125 th 0)
def f_X6_trade (K : Nat → Nat) (z : Nat) (c : zS) (th : Nat) (p1 : Int32) (p2 : Int32) (p3 : Int32) : Option (Nat ⊕ Nat) :=
  (if p1 < 0 then some (.inr 2) else (if p1 ≤ 1000 then (if p2 < 1 then some (.inr 2) else (if p2 ≤ 200 then (if (zi c 125 th 0) < 20 then zlet (zi c 125 th 0) fun x1 => zn K (zr c 121 th 0) 12 fun a2 => zz p3 <| zx x1 20 <| some (.inl a2) else some (.inr 4)) else some (.inr 2))) else some (.inr 2)))
set_option maxRecDepth 100000 in
set_option maxHeartbeats 4000000 in
theorem c_X6_trade {l : Launch} {D : va_G} {cy : Nat → ClassId} {base : Nat} {st : Nat → Nat} {K : Nat → Nat} {L : List Nat} {c r : zS} {o : Int64} {z : Nat} (th : Nat) (p1 : Int32) (p2 : Int32) (p3 : Int32) {res : Nat ⊕ Nat}  (hk_th : K th = 6) (hst : l.stackTraces = false) (hf : f_X6_trade K z c th p1 p2 p3 = some res) : vx_Met l yX6_trade wsX6_trade ({ frames := 6, cells := 2, slots := 12, locals := 100 }) (va_Pc [.ref th, .int p1, .int p2, .int p3] (zGW zts0 zns0 D cy base st K L (c, r, o))) (va_Qi (fun (rr : Int32) (u : (Nat → Nat) × List Nat × zS) => ∃ a, res = .inl a ∧ g_X6_trade K L c th p1 p2 p3 a rr u.1 u.2.1 u.2.2) (fun u => zB D cy base u.1 u.2.1 (u.2.2, r, o)) (zA base)) (vx_X (fun (x : Nat) => res = .inr x) (fun E x t => E = zE x ∧ zB D cy base K L (c, r, o) t) (zA base)) 2 12 (zA base) := by
  refine vx_ofW (cc := cX6_trade) (maxL := 5) (ret := (some .int)) (by decide) rfl ?_
  intro p e s m args below meth cd s₁ B hml htab hv
  obtain ⟨rfl, hG⟩ := hv
  have hx := B.exec
  have hb := B.bytes
  have hr := B.returns
  have hts := atoms_spec (ws := wsX6_trade) B.pre
  have hown : s.vm.findClass RX6 = some m.cls := findClass_of_methodNamed B.named
  have hlocks := B.notSynchronized
  have hC := hG.enter
  have hK := hG.2.2.2.1
  have hi3 : ∀ w ∈ wsX30, w ∈ wsX6_trade := by decide +kernel
  have hi6 : ∀ w ∈ wsX60, w ∈ wsX6_trade := by decide +kernel
  have w0 := hts (.classLink RX6 38 "java/lang/IllegalArgumentException") (by decide +kernel)
  have w1 := hts (.initialized "java/lang/IllegalArgumentException") (by decide +kernel)
  have w2 := hts (.fieldLink RX6 72 "MarketSquare" "tradeCount" "I") (by decide +kernel)
  have w3 := hts (.fieldLink RX6 17 "MarketSquare" "trades" "[LMarketSquare$Trade;") (by decide +kernel)
  have w4 := hts (.classLink RX6 15 RX3) (by decide +kernel)
  have w5 := hts (.instantiable RX3 6) (by decide +kernel)
  have w6 := hts (.initialized RX3) (by decide +kernel)
  have w7 := hts (.methodLink RX6 81 yX3_init) (by decide +kernel)
  have w8 := hts (.instanceMethod yX3_init) (by decide +kernel)
  have w9 := hts (.classLink RX6 76 "java/lang/UnsupportedOperationException") (by decide +kernel)
  have w10 := hts (.initialized "java/lang/UnsupportedOperationException") (by decide +kernel)
  have hl := lv_entry ([.ref th, .int p1, .int p2, .int p3]) (n := 5) (Nat.le_of_ble_eq_true rfl)
  rw [lg_entry_eq]
  generalize (lg_sl ([.ref th, .int p1, .int p2, .int p3]) ++ List.replicate (5 - (lg_sl ([.ref th, .int p1, .int p2, .int p3])).length) Slot.unset).toArray = ls at hl ⊢
  have hl : lv_has ls 5 [(0, .ref th), (1, .int p1), (2, .int p2), (3, .int p3)] := hl
  unfold f_X6_trade at hf
  refine lv_iload_n hx hb dX6_trade_0 rfl (lv_at hl 1 rfl) ?_
  refine lv_if_lt (tgt := 11) hx hb dX6_trade_1 (by decide) (fun h7 => ?_) (fun h7 => ?_)
  · have hf := zif_t hf h7
    exact z_throw (own := RX6) (cls := "java/lang/IllegalArgumentException") (text := "a rate is 0 to 1000") (names := ["java/lang/RuntimeException", "java/lang/Exception"]) (ik := 38) (is := 68) (ic := 42) (k := 2) hx hb hst hown rfl rfl w0 w1 (hG.2.2.2.2.2.2.2.1 3 (RX6, 68, "a rate is 0 to 1000") rfl) (z_hat (ws := wsX6_trade) hts (by decide +kernel) (by decide +kernel) (hG.2.2.2.2.2.2.2.2.2.1 _ (by decide +kernel)) hG.2.2.2.2.2.2.2.2.2.2.2.2) (by decide +kernel) hG hC hl.1 hml dX6_trade_11 dX6_trade_14 dX6_trade_15 dX6_trade_17 dX6_trade_20 htab (Nat.le_of_ble_eq_true rfl) (Nat.le_of_ble_eq_true rfl) (Nat.le_of_ble_eq_true rfl) (Nat.le_of_ble_eq_true rfl) hlocks (Nat.le_of_ble_eq_true rfl) (Nat.le_of_ble_eq_true rfl) hf
  · have hf := zif_f hf h7
    refine lv_iload_n hx hb dX6_trade_4 rfl (lv_at hl 1 rfl) ?_
    refine lv_sipush (v := 1000) hx hb dX6_trade_5 (by decide) ?_
    refine lv_icmp_le (tgt := 21) hx hb dX6_trade_8 (by decide) (fun h6 => ?_) (fun h6 => ?_)
    · have hf := zif_t hf h6
      refine lv_iload_n hx hb dX6_trade_21 rfl (lv_at hl 2 rfl) ?_
      refine lv_iconst (v := 1) hx hb dX6_trade_22 (by decide) ?_
      refine lv_icmp_lt (tgt := 33) hx hb dX6_trade_23 (by decide) (fun h5 => ?_) (fun h5 => ?_)
      · have hf := zif_t hf h5
        exact z_throw (own := RX6) (cls := "java/lang/IllegalArgumentException") (text := "a limit is 1 to 200") (names := ["java/lang/RuntimeException", "java/lang/Exception"]) (ik := 38) (is := 70) (ic := 42) (k := 2) hx hb hst hown rfl rfl w0 w1 (hG.2.2.2.2.2.2.2.1 4 (RX6, 70, "a limit is 1 to 200") rfl) (z_hat (ws := wsX6_trade) hts (by decide +kernel) (by decide +kernel) (hG.2.2.2.2.2.2.2.2.2.1 _ (by decide +kernel)) hG.2.2.2.2.2.2.2.2.2.2.2.2) (by decide +kernel) hG hC hl.1 hml dX6_trade_33 dX6_trade_36 dX6_trade_37 dX6_trade_39 dX6_trade_42 htab (Nat.le_of_ble_eq_true rfl) (Nat.le_of_ble_eq_true rfl) (Nat.le_of_ble_eq_true rfl) (Nat.le_of_ble_eq_true rfl) hlocks (Nat.le_of_ble_eq_true rfl) (Nat.le_of_ble_eq_true rfl) hf
      · have hf := zif_f hf h5
        refine lv_iload_n hx hb dX6_trade_26 rfl (lv_at hl 2 rfl) ?_
        refine lv_sipush (v := 200) hx hb dX6_trade_27 (by decide) ?_
        refine lv_icmp_le (tgt := 43) hx hb dX6_trade_30 (by decide) (fun h4 => ?_) (fun h4 => ?_)
        · have hf := zif_t hf h4
          refine lv_aload_n hx hb dX6_trade_43 rfl (lv_at hl 0 rfl) ?_
          refine zg_6_5 hx hb hts hi6 hown hK hC hk_th w2 dX6_trade_44 ?_
          refine lv_bipush (v := 20) hx hb dX6_trade_47 (by decide) ?_
          refine lv_icmp_lt (tgt := 62) hx hb dX6_trade_49 (by decide) (fun h3 => ?_) (fun h3 => ?_)
          · have hf := zif_t hf h3
            refine lv_aload_n hx hb dX6_trade_62 rfl (lv_at hl 0 rfl) ?_
            refine zg_6_5 hx hb hts hi6 hown hK hC hk_th w2 dX6_trade_63 ?_
            obtain ⟨x1, ex1, hf⟩ := zlet_inv hf
            refine z_name ex1 ?_
            refine lv_istore (lv' := [(4, .int x1), (0, .ref th), (1, .int p1), (2, .int p2), (3, .int p3)]) hx hb dX6_trade_66 hl (by decide) rfl (fun ls hl => ?_)
            refine lv_aload_n hx hb dX6_trade_68 rfl (lv_at hl 1 rfl) ?_
            refine zg_6_1 hx hb hts hi6 hown hK hC hk_th w3 dX6_trade_69 ?_
            obtain ⟨a2, ea2, hk_a2, hf⟩ := zn_inv hf
            refine z_ref ea2 ?_
            refine lv_iload hx hb dX6_trade_72 (lv_at hl 0 rfl) ?_
            subst ex1
            obtain ⟨hz3, hf⟩ := zz_inv hf
            obtain ⟨hix, hf⟩ := zx_inv hf
            refine z_new (Zn := fun q => (znw c q, r, o)) (ci := 3) (C := RX3) (T := TX3) (N := 6) (fs := [.int 0, .int 0, .int 0, .int 0, .int 0, .int 0]) hx hb hts hi3 tyX3 tyX3_ok hown w4 w5 w6 hK hG.1 hC rfl (fun j hj => by rcases (show j = 0 ∨ j = 1 ∨ j = 2 ∨ j = 3 ∨ j = 4 ∨ j = 5 by omega) with rfl | rfl | rfl | rfl | rfl | rfl <;> rfl) (fun q => by rw [zc_3]; simp [zi_znw, zl_znw, zr_znw, va_rf]) (fun q => zOff.nw) (Nat.le_of_ble_eq_true rfl) (Nat.le_of_ble_eq_true rfl) dX6_trade_74 (fun q H hq_q hC => ?_)
            have hk_th : (va_up K q 3) th = 6 := zup_old hq_q hk_th (by decide)
            have hk_a2 : (va_up K q 3) a2 = 12 := zup_old hq_q hk_a2 (by decide)
            have hk_q : (va_up K q 3) q = 3 := va_up_self _ _ _
            refine lv_dup hx hb dX6_trade_77 rfl ?_
            refine lv_iload hx hb dX6_trade_78 (lv_at hl 0 rfl) ?_
            refine lv_iload_n hx hb dX6_trade_80 rfl (lv_at hl 2 rfl) ?_
            refine lv_iload_n hx hb dX6_trade_81 rfl (lv_at hl 3 rfl) ?_
            refine lv_iload_n hx hb dX6_trade_82 rfl (lv_at hl 4 rfl) ?_
            refine z_cv (z_rI (As := [.int (zi c 125 th 0), .int p1, .int p2, .int p3]) (rest := [.ref q, .int (zi c 125 th 0), .ref a2]) ⟨hx, hb, hml, hown, hts⟩ (c_X3_init (l := l) (D := D) (cy := cy) (base := base) (st := st) (K := (va_up K q 3)) (L := (L ++ [q])) (c := (znw c q)) (r := r) (o := o) (z := 0) (cf := (zui (zui (zui (zui (znw c q) 60 q 0 (zi c 125 th 0)) 61 q 0 p1) 62 q 0 p2) 63 q 0 p3)) q (zi c 125 th 0) p1 p2 p3 hk_q (by unfold f_X3_init zlet zz; rw [if_pos hz3])) (cwI 4 hts gX6_trade_X3_init rfl rfl rfl w6 w7 w8 rfl (by decide +kernel) ⟨(Nat.le_of_ble_eq_true rfl), (Nat.le_of_ble_eq_true rfl)⟩) hG hC rfl hl.1 rfl (lv_room (Nat.le_of_ble_eq_true rfl)) dX6_trade_83 ⟨(Nat.le_of_ble_eq_true rfl), (Nat.le_of_ble_eq_true rfl)⟩) hC (fun H locs hC => ?_)
            refine xp_12 (c1 := (zur (zui (zui (zui (zui (znw c q) 60 q 0 (zi c 125 th 0)) 61 q 0 p1) 62 q 0 p2) 63 q 0 p3) 144 a2 (Int32.toNatClampNeg (zi c 125 th 0)) (some q))) hx hb hK hC hk_a2 hix hk_q rfl dX6_trade_86 (fun H locs hC => ?_)
            refine lv_aload_n hx hb dX6_trade_87 rfl (lv_at hl 1 rfl) ?_
            refine lv_dup hx hb dX6_trade_88 rfl ?_
            refine zg_6_5 hx hb hts hi6 hown hK hC hk_th w2 dX6_trade_89 ?_
            refine lv_iconst (v := 1) hx hb dX6_trade_92 (by decide) ?_
            refine lv_iadd hx hb dX6_trade_93 ?_
            refine zp_6_5 (c1 := (zui (zur (zui (zui (zui (zui (znw c q) 60 q 0 (zi c 125 th 0)) 61 q 0 p1) 62 q 0 p2) 63 q 0 p3) 144 a2 (Int32.toNatClampNeg (zi c 125 th 0)) (some q)) 125 th 0 ((zi (zur (zui (zui (zui (zui (znw c q) 60 q 0 (zi c 125 th 0)) 61 q 0 p1) 62 q 0 p2) 63 q 0 p3) 144 a2 (Int32.toNatClampNeg (zi c 125 th 0)) (some q)) 125 th 0) + 1))) hx hb hts hi6 hown hK hC hk_th w2 rfl dX6_trade_94 (fun H locs hC => ?_)
            refine lv_iload hx hb dX6_trade_97 (lv_at hl 0 rfl) ?_
            refine W.widen (k := 2) (n := 12) (Nat.le_of_ble_eq_true rfl) (Nat.le_of_ble_eq_true rfl) ?_
            exact z_xiretA (x := (zi c 125 th 0)) hx hb hr hlocks hC ⟨_, (Option.some.inj hf).symm, q, hq_q, rfl, rfl, rfl, rfl⟩ dX6_trade_99
          · have hf := zif_f hf h3
            exact z_throw (own := RX6) (cls := "java/lang/UnsupportedOperationException") (text := "there are 20 trades") (names := ["java/lang/RuntimeException", "java/lang/Exception"]) (ik := 76) (is := 78) (ic := 80) (k := 4) hx hb hst hown rfl rfl w9 w10 (hG.2.2.2.2.2.2.2.1 5 (RX6, 78, "there are 20 trades") rfl) (z_hat (ws := wsX6_trade) hts (by decide +kernel) (by decide +kernel) (hG.2.2.2.2.2.2.2.2.2.1 _ (by decide +kernel)) hG.2.2.2.2.2.2.2.2.2.2.2.2) (by decide +kernel) hG hC hl.1 hml dX6_trade_52 dX6_trade_55 dX6_trade_56 dX6_trade_58 dX6_trade_61 htab (Nat.le_of_ble_eq_true rfl) (Nat.le_of_ble_eq_true rfl) (Nat.le_of_ble_eq_true rfl) (Nat.le_of_ble_eq_true rfl) hlocks (Nat.le_of_ble_eq_true rfl) (Nat.le_of_ble_eq_true rfl) hf
        · have hf := zif_f hf h4
          exact z_throw (own := RX6) (cls := "java/lang/IllegalArgumentException") (text := "a limit is 1 to 200") (names := ["java/lang/RuntimeException", "java/lang/Exception"]) (ik := 38) (is := 70) (ic := 42) (k := 2) hx hb hst hown rfl rfl w0 w1 (hG.2.2.2.2.2.2.2.1 4 (RX6, 70, "a limit is 1 to 200") rfl) (z_hat (ws := wsX6_trade) hts (by decide +kernel) (by decide +kernel) (hG.2.2.2.2.2.2.2.2.2.1 _ (by decide +kernel)) hG.2.2.2.2.2.2.2.2.2.2.2.2) (by decide +kernel) hG hC hl.1 hml dX6_trade_33 dX6_trade_36 dX6_trade_37 dX6_trade_39 dX6_trade_42 htab (Nat.le_of_ble_eq_true rfl) (Nat.le_of_ble_eq_true rfl) (Nat.le_of_ble_eq_true rfl) (Nat.le_of_ble_eq_true rfl) hlocks (Nat.le_of_ble_eq_true rfl) (Nat.le_of_ble_eq_true rfl) hf
    · have hf := zif_f hf h6
      exact z_throw (own := RX6) (cls := "java/lang/IllegalArgumentException") (text := "a rate is 0 to 1000") (names := ["java/lang/RuntimeException", "java/lang/Exception"]) (ik := 38) (is := 68) (ic := 42) (k := 2) hx hb hst hown rfl rfl w0 w1 (hG.2.2.2.2.2.2.2.1 3 (RX6, 68, "a rate is 0 to 1000") rfl) (z_hat (ws := wsX6_trade) hts (by decide +kernel) (by decide +kernel) (hG.2.2.2.2.2.2.2.2.2.1 _ (by decide +kernel)) hG.2.2.2.2.2.2.2.2.2.2.2.2) (by decide +kernel) hG hC hl.1 hml dX6_trade_11 dX6_trade_14 dX6_trade_15 dX6_trade_17 dX6_trade_20 htab (Nat.le_of_ble_eq_true rfl) (Nat.le_of_ble_eq_true rfl) (Nat.le_of_ble_eq_true rfl) (Nat.le_of_ble_eq_true rfl) hlocks (Nat.le_of_ble_eq_true rfl) (Nat.le_of_ble_eq_true rfl) hf
def g_X6_trader (K : Nat → Nat) (L : List Nat) (c : zS) (th : Nat) (p1 : Int32) (p2 : Int32) (p3 : Int32) (a9 : Nat) (rr : Int32) (K9 : Nat → Nat) (L9 : List Nat) (c9 : zS) : Prop :=
  ∃ q : Nat, 255 ≤ K q ∧ ∃ aT : Nat, zr c 122 th 0 = some aT ∧ ∃ aD : Nat, zr c 123 th 0 = some aD ∧ ∃ (K3 : Nat → Nat) (L3 : List Nat) (c3 : zS), g_X4_init (va_up K q 4) (L ++ [q]) (znw c q) q (zi c 126 th 0) p1 a9 p3 (zi (znw c q) 127 th 0) K3 L3 c3 ∧ K9 = K3 ∧ L9 = L3 ∧ c9 = (zui (zui (zur (zur c3 145 aT (Int32.toNatClampNeg (zi c 126 th 0)) (some q)) 146 aD (Int32.toNatClampNeg (zi c 126 th 0)) (some q)) 126 th 0 ((zi (zur (zur c3 145 aT (Int32.toNatClampNeg (zi c 126 th 0)) (some q)) 146 aD (Int32.toNatClampNeg (zi c 126 th 0)) (some q)) 126 th 0) + 1)) 127 th 0 ((zi (zui (zur (zur c3 145 aT (Int32.toNatClampNeg (zi c 126 th 0)) (some q)) 146 aD (Int32.toNatClampNeg (zi c 126 th 0)) (some q)) 126 th 0 ((zi (zur (zur c3 145 aT (Int32.toNatClampNeg (zi c 126 th 0)) (some q)) 146 aD (Int32.toNatClampNeg (zi c 126 th 0)) (some q)) 126 th 0) + 1)) 127 th 0) + 1)) ∧ rr = (zi c 126 th 0)
def f_X6_trader (K : Nat → Nat) (z : Nat) (c : zS) (th : Nat) (p1 : Int32) (p2 : Int32) (p3 : Int32) : Option (Nat ⊕ Nat) :=
  zt (f_X6_knownTrade K z c th p2) fun o2 => zn K o2 3 fun a4 => (if p1 < 0 then some (.inr 2) else (if p1 ≤ 4 then (if p3 < 1 then some (.inr 2) else (if p3 ≤ 20 then (if (zi c 126 th 0) < 200 then zlet (zi c 126 th 0) fun x5 => zx x5 200 <| zn K (zr c 122 th 0) 13 fun aT => zn K (zr c 123 th 0) 14 fun aD => some (.inl a4) else some (.inr 4)) else some (.inr 2))) else some (.inr 2)))
set_option maxRecDepth 100000 in
set_option maxHeartbeats 4000000 in
theorem c_X6_trader {l : Launch} {D : va_G} {cy : Nat → ClassId} {base : Nat} {st : Nat → Nat} {K : Nat → Nat} {L : List Nat} {c r : zS} {o : Int64} {z : Nat} (th : Nat) (p1 : Int32) (p2 : Int32) (p3 : Int32) {res : Nat ⊕ Nat}  (hk_th : K th = 6) (hst : l.stackTraces = false) (hf : f_X6_trader K z c th p1 p2 p3 = some res) : vx_Met l yX6_trader wsX6_trader ({ frames := 7, cells := 9, slots := 68, locals := 122 }) (va_Pc [.ref th, .int p1, .int p2, .int p3] (zGW zts0 zns0 D cy base st K L (c, r, o))) (va_Qi (fun (rr : Int32) (u : (Nat → Nat) × List Nat × zS) => ∃ a, res = .inl a ∧ g_X6_trader K L c th p1 p2 p3 a rr u.1 u.2.1 u.2.2) (fun u => zB D cy base u.1 u.2.1 (u.2.2, r, o)) (zA base)) (vx_X (fun (x : Nat) => res = .inr x) (fun E x t => E = zE x ∧ zB D cy base K L (c, r, o) t) (zA base)) 9 68 (zA base) := by
  refine vx_ofW (cc := cX6_trader) (maxL := 7) (ret := (some .int)) (by decide) rfl ?_
  intro p e s m args below meth cd s₁ B hml htab hv
  obtain ⟨rfl, hG⟩ := hv
  have hx := B.exec
  have hb := B.bytes
  have hr := B.returns
  have hts := atoms_spec (ws := wsX6_trader) B.pre
  have hown : s.vm.findClass RX6 = some m.cls := findClass_of_methodNamed B.named
  have hlocks := B.notSynchronized
  have hC := hG.enter
  have hK := hG.2.2.2.1
  have hi4 : ∀ w ∈ wsX40, w ∈ wsX6_trader := by decide +kernel
  have hi6 : ∀ w ∈ wsX60, w ∈ wsX6_trader := by decide +kernel
  have w0 := hts (.classLink RX6 38 "java/lang/IllegalArgumentException") (by decide +kernel)
  have w1 := hts (.initialized "java/lang/IllegalArgumentException") (by decide +kernel)
  have w2 := hts (.fieldLink RX6 100 "MarketSquare" "traderCount" "I") (by decide +kernel)
  have w3 := hts (.classLink RX6 21 RX4) (by decide +kernel)
  have w4 := hts (.instantiable RX4 14) (by decide +kernel)
  have w5 := hts (.initialized RX4) (by decide +kernel)
  have w6 := hts (.fieldLink RX6 105 "MarketSquare" "nextRank" "I") (by decide +kernel)
  have w7 := hts (.methodLink RX6 108 yX4_init) (by decide +kernel)
  have w8 := hts (.instanceMethod yX4_init) (by decide +kernel)
  have w9 := hts (.fieldLink RX6 23 "MarketSquare" "traders" "[LMarketSquare$Trader;") (by decide +kernel)
  have w10 := hts (.fieldLink RX6 27 "MarketSquare" "ranked" "[LMarketSquare$Trader;") (by decide +kernel)
  have w11 := hts (.classLink RX6 76 "java/lang/UnsupportedOperationException") (by decide +kernel)
  have w12 := hts (.initialized "java/lang/UnsupportedOperationException") (by decide +kernel)
  have hl := lv_entry ([.ref th, .int p1, .int p2, .int p3]) (n := 7) (Nat.le_of_ble_eq_true rfl)
  rw [lg_entry_eq]
  generalize (lg_sl ([.ref th, .int p1, .int p2, .int p3]) ++ List.replicate (7 - (lg_sl ([.ref th, .int p1, .int p2, .int p3])).length) Slot.unset).toArray = ls at hl ⊢
  have hl : lv_has ls 7 [(0, .ref th), (1, .int p1), (2, .int p2), (3, .int p3)] := hl
  unfold f_X6_trader at hf
  refine lv_aload_n hx hb dX6_trader_0 rfl (lv_at hl 0 rfl) ?_
  refine lv_iload_n hx hb dX6_trader_1 rfl (lv_at hl 2 rfl) ?_
  obtain ⟨q3, hc1, hfn, hfx⟩ := zt_inv hf
  refine z_xcq (z_rxV (As := [.int p2]) (rest := []) ⟨hx, hb, hml, hown, hts⟩ (c_X6_knownTrade (l := l) (D := D) (cy := cy) (base := base) (st := st) (K := K) (L := L) (c := c) (r := r) (o := o) (z := z) th p2 hk_th hst hc1) (cwV 1 hts gX6_trader_X6_knownTrade rfl rfl rfl (by decide +kernel) ⟨Nat.le_of_ble_eq_true rfl, Nat.le_of_ble_eq_true rfl⟩) hG hC (zC.recv (ci := 6) (fs := _) hK hC (by rw [hk_th]; decide) (by rw [hk_th]; exact zc_6 cy _ _) rfl) rfl hl.1 rfl (lv_room (Nat.le_of_ble_eq_true rfl)) dX6_trader_2 ⟨Nat.le_of_ble_eq_true rfl, Nat.le_of_ble_eq_true rfl⟩) hC (fun _ H locs q9 ce hq hC h1 h2 h3 => z_xout htab hlocks (hfx _ hq) hC h1 h2 h3 (Nat.le_of_ble_eq_true rfl) (Nat.le_of_ble_eq_true rfl)) (fun o2 H locs hq hC => ?_)
  have hf := hfn _ hq
  obtain ⟨a4, ea4, hk_a4, hf⟩ := zn_inv hf
  refine z_ref ea4 ?_
  refine lv_astore (lv' := [(4, .ref a4), (0, .ref th), (1, .int p1), (2, .int p2), (3, .int p3)]) hx hb dX6_trader_5 hl (by decide) rfl (fun ls hl => ?_)
  refine lv_iload_n hx hb dX6_trader_7 rfl (lv_at hl 2 rfl) ?_
  refine lv_if_lt (tgt := 16) hx hb dX6_trader_8 (by decide) (fun h10 => ?_) (fun h10 => ?_)
  · have hf := zif_t hf h10
    exact z_throw (own := RX6) (cls := "java/lang/IllegalArgumentException") (text := "a kind is 0 to 4") (names := ["java/lang/RuntimeException", "java/lang/Exception"]) (ik := 38) (is := 96) (ic := 42) (k := 2) hx hb hst hown rfl rfl w0 w1 (hG.2.2.2.2.2.2.2.1 6 (RX6, 96, "a kind is 0 to 4") rfl) (z_hat (ws := wsX6_trader) hts (by decide +kernel) (by decide +kernel) (hG.2.2.2.2.2.2.2.2.2.1 _ (by decide +kernel)) hG.2.2.2.2.2.2.2.2.2.2.2.2) (by decide +kernel) hG hC hl.1 hml dX6_trader_16 dX6_trader_19 dX6_trader_20 dX6_trader_22 dX6_trader_25 htab (Nat.le_of_ble_eq_true rfl) (Nat.le_of_ble_eq_true rfl) (Nat.le_of_ble_eq_true rfl) (Nat.le_of_ble_eq_true rfl) hlocks (Nat.le_of_ble_eq_true rfl) (Nat.le_of_ble_eq_true rfl) hf
  · have hf := zif_f hf h10
    refine lv_iload_n hx hb dX6_trader_11 rfl (lv_at hl 2 rfl) ?_
    refine lv_iconst (v := 4) hx hb dX6_trader_12 (by decide) ?_
    refine lv_icmp_le (tgt := 26) hx hb dX6_trader_13 (by decide) (fun h9 => ?_) (fun h9 => ?_)
    · have hf := zif_t hf h9
      refine lv_iload_n hx hb dX6_trader_26 rfl (lv_at hl 4 rfl) ?_
      refine lv_iconst (v := 1) hx hb dX6_trader_27 (by decide) ?_
      refine lv_icmp_lt (tgt := 37) hx hb dX6_trader_28 (by decide) (fun h8 => ?_) (fun h8 => ?_)
      · have hf := zif_t hf h8
        exact z_throw (own := RX6) (cls := "java/lang/IllegalArgumentException") (text := "a front is 1 to 20") (names := ["java/lang/RuntimeException", "java/lang/Exception"]) (ik := 38) (is := 98) (ic := 42) (k := 2) hx hb hst hown rfl rfl w0 w1 (hG.2.2.2.2.2.2.2.1 7 (RX6, 98, "a front is 1 to 20") rfl) (z_hat (ws := wsX6_trader) hts (by decide +kernel) (by decide +kernel) (hG.2.2.2.2.2.2.2.2.2.1 _ (by decide +kernel)) hG.2.2.2.2.2.2.2.2.2.2.2.2) (by decide +kernel) hG hC hl.1 hml dX6_trader_37 dX6_trader_40 dX6_trader_41 dX6_trader_43 dX6_trader_46 htab (Nat.le_of_ble_eq_true rfl) (Nat.le_of_ble_eq_true rfl) (Nat.le_of_ble_eq_true rfl) (Nat.le_of_ble_eq_true rfl) hlocks (Nat.le_of_ble_eq_true rfl) (Nat.le_of_ble_eq_true rfl) hf
      · have hf := zif_f hf h8
        refine lv_iload_n hx hb dX6_trader_31 rfl (lv_at hl 4 rfl) ?_
        refine lv_bipush (v := 20) hx hb dX6_trader_32 (by decide) ?_
        refine lv_icmp_le (tgt := 47) hx hb dX6_trader_34 (by decide) (fun h7 => ?_) (fun h7 => ?_)
        · have hf := zif_t hf h7
          refine lv_aload_n hx hb dX6_trader_47 rfl (lv_at hl 1 rfl) ?_
          refine zg_6_6 hx hb hts hi6 hown hK hC hk_th w2 dX6_trader_48 ?_
          refine lv_sipush (v := 200) hx hb dX6_trader_51 (by decide) ?_
          refine lv_icmp_lt (tgt := 67) hx hb dX6_trader_54 (by decide) (fun h6 => ?_) (fun h6 => ?_)
          · have hf := zif_t hf h6
            refine lv_aload_n hx hb dX6_trader_67 rfl (lv_at hl 1 rfl) ?_
            refine zg_6_6 hx hb hts hi6 hown hK hC hk_th w2 dX6_trader_68 ?_
            obtain ⟨x5, ex5, hf⟩ := zlet_inv hf
            refine z_name ex5 ?_
            refine lv_istore (lv' := [(5, .int x5), (4, .ref a4), (0, .ref th), (1, .int p1), (2, .int p2), (3, .int p3)]) hx hb dX6_trader_71 hl (by decide) rfl (fun ls hl => ?_)
            subst ex5
            obtain ⟨hix, hf⟩ := zx_inv hf
            obtain ⟨aT, eaT, hk_aT, hf⟩ := zn_inv hf
            obtain ⟨aD, eaD, hk_aD, hf⟩ := zn_inv hf
            refine z_new (Zn := fun q => (znw c q, r, o)) (ci := 4) (C := RX4) (T := TX4) (N := 14) (fs := [.int 0, .null, .int 0, .null, .null, .null, .int 0, .int 0, .int 0, .int 0, .int 0, .int 0, .int 0, .long 0]) hx hb hts hi4 tyX4 tyX4_ok hown w3 w4 w5 hK hG.1 hC rfl (fun j hj => by rcases (show j = 0 ∨ j = 1 ∨ j = 2 ∨ j = 3 ∨ j = 4 ∨ j = 5 ∨ j = 6 ∨ j = 7 ∨ j = 8 ∨ j = 9 ∨ j = 10 ∨ j = 11 ∨ j = 12 ∨ j = 13 by omega) with rfl | rfl | rfl | rfl | rfl | rfl | rfl | rfl | rfl | rfl | rfl | rfl | rfl | rfl <;> rfl) (fun q => by rw [zc_4]; simp [zi_znw, zl_znw, zr_znw, va_rf]) (fun q => zOff.nw) (Nat.le_of_ble_eq_true rfl) (Nat.le_of_ble_eq_true rfl) dX6_trader_73 (fun q H hq_q hC => ?_)
            have hk_th : (va_up K q 4) th = 6 := zup_old hq_q hk_th (by decide)
            have hk_a4 : (va_up K q 4) a4 = 3 := zup_old hq_q hk_a4 (by decide)
            have hk_aT : (va_up K q 4) aT = 13 := zup_old hq_q hk_aT (by decide)
            have hk_aD : (va_up K q 4) aD = 14 := zup_old hq_q hk_aD (by decide)
            have hk_q : (va_up K q 4) q = 4 := va_up_self _ _ _
            refine lv_dup hx hb dX6_trader_76 rfl ?_
            refine lv_iload hx hb dX6_trader_77 (lv_at hl 0 rfl) ?_
            refine lv_iload_n hx hb dX6_trader_79 rfl (lv_at hl 3 rfl) ?_
            refine lv_aload hx hb dX6_trader_80 (lv_at hl 1 rfl) ?_
            refine lv_iload_n hx hb dX6_trader_82 rfl (lv_at hl 5 rfl) ?_
            refine lv_aload_n hx hb dX6_trader_83 rfl (lv_at hl 2 rfl) ?_
            refine zg_6_7 hx hb hts hi6 hown hK hC hk_th w6 dX6_trader_84 ?_
            have hSaD : ∀ K3 L3 c3, g_X4_init (va_up K q 4) (L ++ [q]) (znw c q) q (zi c 126 th 0) p1 a4 p3 (zi (znw c q) 127 th 0) K3 L3 c3 → zr c3 123 th 0 = some aD := fun K3 L3 c3 hP => (g_X4_init_keep hP 123 th (by decide) (by rw [hk_th]; decide)).trans (by rw [zr_znw, if_neg (fun e => by rw [e] at hk_th; rw [hk_q] at hk_th; cases hk_th)]; exact eaD)
            have hSaT : ∀ K3 L3 c3, g_X4_init (va_up K q 4) (L ++ [q]) (znw c q) q (zi c 126 th 0) p1 a4 p3 (zi (znw c q) 127 th 0) K3 L3 c3 → zr c3 122 th 0 = some aT := fun K3 L3 c3 hP => (g_X4_init_keep hP 122 th (by decide) (by rw [hk_th]; decide)).trans (by rw [zr_znw, if_neg (fun e => by rw [e] at hk_th; rw [hk_q] at hk_th; cases hk_th)]; exact eaT)
            refine z_cvA (z_rI (As := [.int (zi c 126 th 0), .int p1, .ref a4, .int p3, .int (zi (znw c q) 127 th 0)]) (rest := [.ref q]) ⟨hx, hb, hml, hown, hts⟩ (c_X4_init (l := l) (D := D) (cy := cy) (base := base) (st := st) (K := (va_up K q 4)) (L := (L ++ [q])) (c := (znw c q)) (r := r) (o := o) q (zi c 126 th 0) p1 a4 p3 (zi (znw c q) 127 th 0) hk_q hk_a4) (cwI 5 hts gX6_trader_X4_init rfl rfl rfl w5 w7 w8 rfl (by decide +kernel) ⟨(Nat.le_of_ble_eq_true rfl), (Nat.le_of_ble_eq_true rfl)⟩) hG hC rfl hl.1 rfl (lv_room (Nat.le_of_ble_eq_true rfl)) dX6_trader_87 ⟨(Nat.le_of_ble_eq_true rfl), (Nat.le_of_ble_eq_true rfl)⟩) hC (fun K3 L3 c3 H locs hP3 hC => ?_)
            have hk_th : K3 th = 6 := (g_X4_init_old hP3 _ (by rw [hk_th]; decide)).trans hk_th
            have hk_a4 : K3 a4 = 3 := (g_X4_init_old hP3 _ (by rw [hk_a4]; decide)).trans hk_a4
            have hk_aT : K3 aT = 13 := (g_X4_init_old hP3 _ (by rw [hk_aT]; decide)).trans hk_aT
            have hk_aD : K3 aD = 14 := (g_X4_init_old hP3 _ (by rw [hk_aD]; decide)).trans hk_aD
            have hk_q : K3 q = 4 := (g_X4_init_old hP3 _ (by rw [hk_q]; decide)).trans hk_q
            refine lv_astore (lv' := [(6, .ref q), (5, .int (zi c 126 th 0)), (4, .ref a4), (0, .ref th), (1, .int p1), (2, .int p2), (3, .int p3)]) hx hb dX6_trader_90 hl (by decide) rfl (fun ls hl => ?_)
            refine lv_aload_n hx hb dX6_trader_92 rfl (lv_at hl 3 rfl) ?_
            refine zg_6_2 hx hb hts hi6 hown hK hC hk_th w9 dX6_trader_93 ?_
            refine z_ref (y := aT) (hSaT _ _ _ hP3) ?_
            refine lv_iload hx hb dX6_trader_96 (lv_at hl 1 rfl) ?_
            refine lv_aload hx hb dX6_trader_98 (lv_at hl 0 rfl) ?_
            refine xp_13 (c1 := (zur c3 145 aT (Int32.toNatClampNeg (zi c 126 th 0)) (some q))) hx hb hK hC hk_aT hix hk_q rfl dX6_trader_100 (fun H locs hC => ?_)
            refine lv_aload_n hx hb dX6_trader_101 rfl (lv_at hl 3 rfl) ?_
            refine zg_6_3 hx hb hts hi6 hown hK hC hk_th w10 dX6_trader_102 ?_
            refine z_ref (y := aD) (by simp only [zr_zur]; rw [if_neg (by decide)]; exact hSaD _ _ _ hP3) ?_
            refine lv_iload hx hb dX6_trader_105 (lv_at hl 1 rfl) ?_
            refine lv_aload hx hb dX6_trader_107 (lv_at hl 0 rfl) ?_
            refine xp_14 (c1 := (zur (zur c3 145 aT (Int32.toNatClampNeg (zi c 126 th 0)) (some q)) 146 aD (Int32.toNatClampNeg (zi c 126 th 0)) (some q))) hx hb hK hC hk_aD hix hk_q rfl dX6_trader_109 (fun H locs hC => ?_)
            refine lv_aload_n hx hb dX6_trader_110 rfl (lv_at hl 3 rfl) ?_
            refine lv_dup hx hb dX6_trader_111 rfl ?_
            refine zg_6_6 hx hb hts hi6 hown hK hC hk_th w2 dX6_trader_112 ?_
            refine lv_iconst (v := 1) hx hb dX6_trader_115 (by decide) ?_
            refine lv_iadd hx hb dX6_trader_116 ?_
            refine zp_6_6 (c1 := (zui (zur (zur c3 145 aT (Int32.toNatClampNeg (zi c 126 th 0)) (some q)) 146 aD (Int32.toNatClampNeg (zi c 126 th 0)) (some q)) 126 th 0 ((zi (zur (zur c3 145 aT (Int32.toNatClampNeg (zi c 126 th 0)) (some q)) 146 aD (Int32.toNatClampNeg (zi c 126 th 0)) (some q)) 126 th 0) + 1))) hx hb hts hi6 hown hK hC hk_th w2 rfl dX6_trader_117 (fun H locs hC => ?_)
            refine lv_aload_n hx hb dX6_trader_120 rfl (lv_at hl 3 rfl) ?_
            refine lv_dup hx hb dX6_trader_121 rfl ?_
            refine zg_6_7 hx hb hts hi6 hown hK hC hk_th w6 dX6_trader_122 ?_
            refine lv_iconst (v := 1) hx hb dX6_trader_125 (by decide) ?_
            refine lv_iadd hx hb dX6_trader_126 ?_
            refine zp_6_7 (c1 := (zui (zui (zur (zur c3 145 aT (Int32.toNatClampNeg (zi c 126 th 0)) (some q)) 146 aD (Int32.toNatClampNeg (zi c 126 th 0)) (some q)) 126 th 0 ((zi (zur (zur c3 145 aT (Int32.toNatClampNeg (zi c 126 th 0)) (some q)) 146 aD (Int32.toNatClampNeg (zi c 126 th 0)) (some q)) 126 th 0) + 1)) 127 th 0 ((zi (zui (zur (zur c3 145 aT (Int32.toNatClampNeg (zi c 126 th 0)) (some q)) 146 aD (Int32.toNatClampNeg (zi c 126 th 0)) (some q)) 126 th 0 ((zi (zur (zur c3 145 aT (Int32.toNatClampNeg (zi c 126 th 0)) (some q)) 146 aD (Int32.toNatClampNeg (zi c 126 th 0)) (some q)) 126 th 0) + 1)) 127 th 0) + 1))) hx hb hts hi6 hown hK hC hk_th w6 rfl dX6_trader_127 (fun H locs hC => ?_)
            refine lv_iload hx hb dX6_trader_130 (lv_at hl 1 rfl) ?_
            refine W.widen (k := 9) (n := 68) (Nat.le_of_ble_eq_true rfl) (Nat.le_of_ble_eq_true rfl) ?_
            exact z_xiretA (x := (zi c 126 th 0)) hx hb hr hlocks hC ⟨_, (Option.some.inj hf).symm, q, hq_q, aT, eaT, aD, eaD, K3, L3, c3, hP3, rfl, rfl, rfl, rfl⟩ dX6_trader_132
          · have hf := zif_f hf h6
            exact z_throw (own := RX6) (cls := "java/lang/UnsupportedOperationException") (text := "there are 200 traders") (names := ["java/lang/RuntimeException", "java/lang/Exception"]) (ik := 76) (is := 103) (ic := 80) (k := 4) hx hb hst hown rfl rfl w11 w12 (hG.2.2.2.2.2.2.2.1 8 (RX6, 103, "there are 200 traders") rfl) (z_hat (ws := wsX6_trader) hts (by decide +kernel) (by decide +kernel) (hG.2.2.2.2.2.2.2.2.2.1 _ (by decide +kernel)) hG.2.2.2.2.2.2.2.2.2.2.2.2) (by decide +kernel) hG hC hl.1 hml dX6_trader_57 dX6_trader_60 dX6_trader_61 dX6_trader_63 dX6_trader_66 htab (Nat.le_of_ble_eq_true rfl) (Nat.le_of_ble_eq_true rfl) (Nat.le_of_ble_eq_true rfl) (Nat.le_of_ble_eq_true rfl) hlocks (Nat.le_of_ble_eq_true rfl) (Nat.le_of_ble_eq_true rfl) hf
        · have hf := zif_f hf h7
          exact z_throw (own := RX6) (cls := "java/lang/IllegalArgumentException") (text := "a front is 1 to 20") (names := ["java/lang/RuntimeException", "java/lang/Exception"]) (ik := 38) (is := 98) (ic := 42) (k := 2) hx hb hst hown rfl rfl w0 w1 (hG.2.2.2.2.2.2.2.1 7 (RX6, 98, "a front is 1 to 20") rfl) (z_hat (ws := wsX6_trader) hts (by decide +kernel) (by decide +kernel) (hG.2.2.2.2.2.2.2.2.2.1 _ (by decide +kernel)) hG.2.2.2.2.2.2.2.2.2.2.2.2) (by decide +kernel) hG hC hl.1 hml dX6_trader_37 dX6_trader_40 dX6_trader_41 dX6_trader_43 dX6_trader_46 htab (Nat.le_of_ble_eq_true rfl) (Nat.le_of_ble_eq_true rfl) (Nat.le_of_ble_eq_true rfl) (Nat.le_of_ble_eq_true rfl) hlocks (Nat.le_of_ble_eq_true rfl) (Nat.le_of_ble_eq_true rfl) hf
    · have hf := zif_f hf h9
      exact z_throw (own := RX6) (cls := "java/lang/IllegalArgumentException") (text := "a kind is 0 to 4") (names := ["java/lang/RuntimeException", "java/lang/Exception"]) (ik := 38) (is := 96) (ic := 42) (k := 2) hx hb hst hown rfl rfl w0 w1 (hG.2.2.2.2.2.2.2.1 6 (RX6, 96, "a kind is 0 to 4") rfl) (z_hat (ws := wsX6_trader) hts (by decide +kernel) (by decide +kernel) (hG.2.2.2.2.2.2.2.2.2.1 _ (by decide +kernel)) hG.2.2.2.2.2.2.2.2.2.2.2.2) (by decide +kernel) hG hC hl.1 hml dX6_trader_16 dX6_trader_19 dX6_trader_20 dX6_trader_22 dX6_trader_25 htab (Nat.le_of_ble_eq_true rfl) (Nat.le_of_ble_eq_true rfl) (Nat.le_of_ble_eq_true rfl) (Nat.le_of_ble_eq_true rfl) hlocks (Nat.le_of_ble_eq_true rfl) (Nat.le_of_ble_eq_true rfl) hf
