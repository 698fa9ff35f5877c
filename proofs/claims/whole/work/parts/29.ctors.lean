def f_X1_init (K : Nat → Nat) (z : Nat) (c : zS) (th : Nat) : Option Unit :=
  some ()
set_option maxRecDepth 100000 in
set_option maxHeartbeats 4000000 in
theorem c_X1_init {l : Launch} {D : va_G} {cy : Nat → ClassId} {base : Nat} {st : Nat → Nat} {K : Nat → Nat} {L : List Nat} {c r : zS} {o : Int64} {z : Nat} (th : Nat)  (hk_th : K th = 1) (hf : f_X1_init K z c th = some ()) : Met l yX1_init wsX1_init ({ frames := 1, cells := 0, slots := 0, locals := 24 }) (va_Pc [.ref th] (zGW zts0 zns0 D cy base st K L (c, r, o))) (va_Qv (fun (_ : Unit) => True) (fun _ => zB D cy base K L (c, r, o)) (zA base)) 0 0 (zA base) := by
  refine Met.ofW (cc := cX1_init) (maxL := 1) (ret := none) (by decide) rfl ?_
  intro p e s m args below meth cd s₁ B hml hv
  obtain ⟨rfl, hG⟩ := hv
  have hx := B.exec
  have hb := B.bytes
  have hr := B.returns
  have hts := atoms_spec (ws := wsX1_init) B.pre
  have hown : s.vm.findClass RX1 = some m.cls := findClass_of_methodNamed B.named
  have hlocks := B.notSynchronized
  have hC := hG.enter
  have hK := hG.2.2.2.1
  have hin2 : meth.name = "<init>" := (name_of_methodNamed B.named B.method).1
  have w0 := hts (.methodLink RX1 3 objectInit) (by decide +kernel)
  have w1 := hts (.instanceMethod objectInit) (by decide +kernel)
  have w2 := hts (.code objectInit ⟨#[0xb1]⟩ 1 none) (by decide +kernel)
  have hl := lv_entry ([.ref th]) (n := 1) (Nat.le_of_ble_eq_true rfl)
  rw [lg_entry_eq]
  generalize (lg_sl ([.ref th]) ++ List.replicate (1 - (lg_sl ([.ref th])).length) Slot.unset).toArray = ls at hl ⊢
  have hl : lv_has ls 1 [(0, .ref th)] := hl
  unfold f_X1_init at hf
  refine lv_aload_n hx hb dX1_init_0 rfl (lv_at hl 0 rfl) ?_
  refine z_obj hx hb hown w0 w1 w2 (by rw [hml]; exact hl.1) dX1_init_1 (Nat.le_of_ble_eq_true rfl) (Nat.le_of_ble_eq_true rfl) ?_
  exact z_vret hx hb hr hlocks hC dX1_init_4
def f_X3_init (K : Nat → Nat) (z : Nat) (c : zS) (th : Nat) (p1 : Int32) (p2 : Int32) (p3 : Int32) (p4 : Int32) : Option zS :=
  zlet (zui c 60 th 0 p1) fun c1 => zlet (zui c1 61 th 0 p2) fun c2 => zlet (zui c2 62 th 0 p3) fun c3 => zz p4 <| zlet (zui c3 63 th 0 p4) fun c5 => some c5
set_option maxRecDepth 100000 in
set_option maxHeartbeats 4000000 in
theorem c_X3_init {l : Launch} {D : va_G} {cy : Nat → ClassId} {base : Nat} {st : Nat → Nat} {K : Nat → Nat} {L : List Nat} {c r : zS} {o : Int64} {z : Nat} (th : Nat) (p1 : Int32) (p2 : Int32) (p3 : Int32) (p4 : Int32) {cf : zS}  (hk_th : K th = 3) (hf : f_X3_init K z c th p1 p2 p3 p4 = some cf) : Met l yX3_init wsX3_init ({ frames := 1, cells := 0, slots := 0, locals := 24 }) (va_Pc [.ref th, .int p1, .int p2, .int p3, .int p4] (zGW zts0 zns0 D cy base st K L (c, r, o))) (va_Qv (fun (_ : Unit) => True) (fun _ => zB D cy base K L (cf, r, o)) (zA base)) 0 0 (zA base) := by
  refine Met.ofW (cc := cX3_init) (maxL := 5) (ret := none) (by decide) rfl ?_
  intro p e s m args below meth cd s₁ B hml hv
  obtain ⟨rfl, hG⟩ := hv
  have hx := B.exec
  have hb := B.bytes
  have hr := B.returns
  have hts := atoms_spec (ws := wsX3_init) B.pre
  have hown : s.vm.findClass RX3 = some m.cls := findClass_of_methodNamed B.named
  have hlocks := B.notSynchronized
  have hC := hG.enter
  have hK := hG.2.2.2.1
  have hin2 : meth.name = "<init>" := (name_of_methodNamed B.named B.method).1
  have hi3 : ∀ w ∈ wsX30, w ∈ wsX3_init := by decide +kernel
  have w0 := hts (.methodLink RX3 1 objectInit) (by decide +kernel)
  have w1 := hts (.instanceMethod objectInit) (by decide +kernel)
  have w2 := hts (.code objectInit ⟨#[0xb1]⟩ 1 none) (by decide +kernel)
  have w3 := hts (.fieldLink RX3 7 "MarketSquare$Trade" "number" "I") (by decide +kernel)
  have w4 := hts (.fieldLink RX3 13 "MarketSquare$Trade" "rate" "I") (by decide +kernel)
  have w5 := hts (.fieldLink RX3 16 "MarketSquare$Trade" "limit" "I") (by decide +kernel)
  have w6 := hts (.fieldLink RX3 19 "MarketSquare$Trade" "cloth" "Z") (by decide +kernel)
  have hl := lv_entry ([.ref th, .int p1, .int p2, .int p3, .int p4]) (n := 5) (Nat.le_of_ble_eq_true rfl)
  rw [lg_entry_eq]
  generalize (lg_sl ([.ref th, .int p1, .int p2, .int p3, .int p4]) ++ List.replicate (5 - (lg_sl ([.ref th, .int p1, .int p2, .int p3, .int p4])).length) Slot.unset).toArray = ls at hl ⊢
  have hl : lv_has ls 5 [(0, .ref th), (1, .int p1), (2, .int p2), (3, .int p3), (4, .int p4)] := hl
  unfold f_X3_init at hf
  refine lv_aload_n hx hb dX3_init_0 rfl (lv_at hl 0 rfl) ?_
  refine z_obj hx hb hown w0 w1 w2 (by rw [hml]; exact hl.1) dX3_init_1 (Nat.le_of_ble_eq_true rfl) (Nat.le_of_ble_eq_true rfl) ?_
  refine lv_aload_n hx hb dX3_init_4 rfl (lv_at hl 0 rfl) ?_
  refine lv_iload_n hx hb dX3_init_5 rfl (lv_at hl 1 rfl) ?_
  obtain ⟨c1, ec1, hf⟩ := zlet_inv hf
  refine zp_3_0 hx hb hts hi3 hown hK hC hk_th w3 hin2 rfl ec1 dX3_init_6 (fun H locs hC => ?_)
  refine lv_aload_n hx hb dX3_init_9 rfl (lv_at hl 0 rfl) ?_
  refine lv_iload_n hx hb dX3_init_10 rfl (lv_at hl 2 rfl) ?_
  obtain ⟨c2, ec2, hf⟩ := zlet_inv hf
  refine zp_3_1 hx hb hts hi3 hown hK hC hk_th w4 hin2 rfl ec2 dX3_init_11 (fun H locs hC => ?_)
  refine lv_aload_n hx hb dX3_init_14 rfl (lv_at hl 0 rfl) ?_
  refine lv_iload_n hx hb dX3_init_15 rfl (lv_at hl 3 rfl) ?_
  obtain ⟨c3, ec3, hf⟩ := zlet_inv hf
  refine zp_3_2 hx hb hts hi3 hown hK hC hk_th w5 hin2 rfl ec3 dX3_init_16 (fun H locs hC => ?_)
  refine lv_aload_n hx hb dX3_init_19 rfl (lv_at hl 0 rfl) ?_
  refine lv_iload hx hb dX3_init_20 (lv_at hl 4 rfl) ?_
  obtain ⟨hz4, hf⟩ := zz_inv hf
  obtain ⟨c5, ec5, hf⟩ := zlet_inv hf
  refine zp_3_3 hx hb hts hi3 hown hK hC hk_th w6 hz4 hin2 rfl ec5 dX3_init_22 (fun H locs hC => ?_)
  exact z_vretW hx hb hr hlocks hC hf dX3_init_25
def g_X5_init (K : Nat → Nat) (L : List Nat) (c : zS) (th : Nat) (K9 : Nat → Nat) (L9 : List Nat) (c9 : zS) : Prop :=
  ∃ q1 : Nat, 255 ≤ K q1 ∧ ∃ q2 : Nat, 255 ≤ (va_up K q1 9) q2 ∧ K9 = (va_up (va_up K q1 9) q2 10) ∧ L9 = ((L ++ [q1]) ++ [q2]) ∧ c9 = (zur (znw (zur (znw c q1) 100 th 0 (some q1)) q2) 101 th 0 (some q2))
theorem g_X5_init_old {K : Nat → Nat} {L : List Nat} {c : zS} {th : Nat} {K9 : Nat → Nat} {L9 : List Nat} {c9 : zS} (h : g_X5_init K L c th K9 L9 c9) : ∀ a, K a < 255 → K9 a = K a := by
  obtain ⟨q1, hq_q1, q2, hq_q2, rfl, rfl, rfl⟩ := h
  intro a ha
  have h0 : K a < 255 := ha
  have e0 : K a = K a := rfl
  have e1 := zup_old (k := 9) hq_q1 e0 ha
  have e2 := zup_old (k := 10) hq_q2 e1 ha
  exact e2
set_option maxRecDepth 100000 in
set_option maxHeartbeats 4000000 in
theorem c_X5_init {l : Launch} {D : va_G} {cy : Nat → ClassId} {base : Nat} {st : Nat → Nat} {K : Nat → Nat} {L : List Nat} {c r : zS} {o : Int64} (th : Nat) (hk_th : K th = 5) : Met l yX5_init wsX5_init ({ frames := 1, cells := 2, slots := 24, locals := 24 }) (va_Pc [.ref th] (zGW zts0 zns0 D cy base st K L (c, r, o))) (va_Qv (fun (u : (Nat → Nat) × List Nat × zS) => g_X5_init K L c th u.1 u.2.1 u.2.2) (fun u => zB D cy base u.1 u.2.1 (u.2.2, r, o)) (zA base)) 2 24 (zA base) := by
  refine Met.ofW (cc := cX5_init) (maxL := 1) (ret := none) (by decide) rfl ?_
  intro p e s m args below meth cd s₁ B hml hv
  obtain ⟨rfl, hG⟩ := hv
  have hx := B.exec
  have hb := B.bytes
  have hr := B.returns
  have hts := atoms_spec (ws := wsX5_init) B.pre
  have hown : s.vm.findClass RX5 = some m.cls := findClass_of_methodNamed B.named
  have hlocks := B.notSynchronized
  have hin2 : meth.name = "<init>" := (name_of_methodNamed B.named B.method).1
  have hC := hG.enter
  have hK := hG.2.2.2.1
  have hi5 : ∀ w ∈ wsX50, w ∈ wsX5_init := by decide +kernel
  have w0 := hts (.methodLink RX5 3 objectInit) (by decide +kernel)
  have w1 := hts (.instanceMethod objectInit) (by decide +kernel)
  have w2 := hts (.code objectInit ⟨#[0xb1]⟩ 1 none) (by decide +kernel)
  have w3 := hts (.arrayClass .int) (by decide +kernel)
  have w4 := hts (.fieldLink RX5 9 "MarketSquare$Wish" "rows" "[I") (by decide +kernel)
  have w5 := hts (.fieldLink RX5 15 "MarketSquare$Wish" "places" "[I") (by decide +kernel)
  have hl := lv_entry ([.ref th]) (n := 1) (Nat.le_of_ble_eq_true rfl)
  rw [lg_entry_eq]
  generalize (lg_sl ([.ref th]) ++ List.replicate (1 - (lg_sl ([.ref th])).length) Slot.unset).toArray = ls at hl ⊢
  have hl : lv_has ls 1 [(0, .ref th)] := hl
  refine lv_aload_n hx hb dX5_init_0 rfl (lv_at hl 0 rfl) ?_
  refine z_obj hx hb hown w0 w1 w2 (by rw [hml]; exact hl.1) dX5_init_1 (Nat.le_of_ble_eq_true rfl) (Nat.le_of_ble_eq_true rfl) ?_
  refine lv_aload_n hx hb dX5_init_4 rfl (lv_at hl 0 rfl) ?_
  refine lv_bipush (v := 12) hx hb dX5_init_5 (by decide) ?_
  refine z_newai (Zn := fun q => (znw c q, r, o)) (lab := 9) (N' := 12) hx hb w3 hK hG.1 hC (by decide) (by decide) (by decide) (Nat.le_of_ble_eq_true rfl) (Nat.le_of_ble_eq_true rfl) (fun q => by rw [zc_9]; rw [zi_znq]) (fun q => zOff.nw) dX5_init_7 (fun q1 H hq_q1 hC => ?_)
  have n_q1 : th ≠ q1 := fun e => by rw [e] at hk_th; omega
  have hk_th : (va_up K q1 9) th = 5 := zup_old hq_q1 hk_th (by decide)
  have hk_q1 : (va_up K q1 9) q1 = 9 := va_up_self _ _ _
  refine zp_5_0 (x := some q1) (c1 := (zur (znw c q1) 100 th 0 (some q1))) hx hb hts hi5 hown hK hC hk_th w4 hin2 rfl rfl dX5_init_9 (fun H locs hC => ?_)
  refine lv_aload_n hx hb dX5_init_12 rfl (lv_at hl 0 rfl) ?_
  refine lv_bipush (v := 12) hx hb dX5_init_13 (by decide) ?_
  refine z_newai (Zn := fun q => (znw (zur (znw c q1) 100 th 0 (some q1)) q, r, o)) (lab := 10) (N' := 12) hx hb w3 hK hG.1 hC (by decide) (by decide) (by decide) (Nat.le_of_ble_eq_true rfl) (Nat.le_of_ble_eq_true rfl) (fun q => by rw [zc_10]; rw [zi_znq]) (fun q => zOff.nw) dX5_init_15 (fun q2 H hq_q2 hC => ?_)
  have n_q2 : th ≠ q2 := fun e => by rw [e] at hk_th; omega
  have hk_th : (va_up (va_up K q1 9) q2 10) th = 5 := zup_old hq_q2 hk_th (by decide)
  have hk_q2 : (va_up (va_up K q1 9) q2 10) q2 = 10 := va_up_self _ _ _
  refine zp_5_1 (x := some q2) (c1 := (zur (znw (zur (znw c q1) 100 th 0 (some q1)) q2) 101 th 0 (some q2))) hx hb hts hi5 hown hK hC hk_th w5 hin2 rfl rfl dX5_init_17 (fun H locs hC => ?_)
  exact z_vretA (P := fun K1 L1 c1 => g_X5_init K L c th K1 L1 c1) hx hb hr hlocks hC ⟨q1, hq_q1, q2, hq_q2, rfl, rfl, rfl⟩ dX5_init_20
def g_X2_init (K : Nat → Nat) (L : List Nat) (c : zS) (th : Nat) (K9 : Nat → Nat) (L9 : List Nat) (c9 : zS) : Prop :=
  ∃ q1 : Nat, 255 ≤ K q1 ∧ K9 = (va_up K q1 1) ∧ L9 = (L ++ [q1]) ∧ c9 = (zur (znw c q1) 40 th 0 (some q1))
theorem g_X2_init_old {K : Nat → Nat} {L : List Nat} {c : zS} {th : Nat} {K9 : Nat → Nat} {L9 : List Nat} {c9 : zS} (h : g_X2_init K L c th K9 L9 c9) : ∀ a, K a < 255 → K9 a = K a := by
  obtain ⟨q1, hq_q1, rfl, rfl, rfl⟩ := h
  intro a ha
  have h0 : K a < 255 := ha
  have e0 : K a = K a := rfl
  have e1 := zup_old (k := 1) hq_q1 e0 ha
  exact e1
set_option maxRecDepth 100000 in
set_option maxHeartbeats 4000000 in
theorem c_X2_init {l : Launch} {D : va_G} {cy : Nat → ClassId} {base : Nat} {st : Nat → Nat} {K : Nat → Nat} {L : List Nat} {c r : zS} {o : Int64} (th : Nat) (hk_th : K th = 2) : Met l yX2_init wsX2_init ({ frames := 2, cells := 1, slots := 3, locals := 44 }) (va_Pc [.ref th] (zGW zts0 zns0 D cy base st K L (c, r, o))) (va_Qv (fun (u : (Nat → Nat) × List Nat × zS) => g_X2_init K L c th u.1 u.2.1 u.2.2) (fun u => zB D cy base u.1 u.2.1 (u.2.2, r, o)) (zA base)) 1 3 (zA base) := by
  refine Met.ofW (cc := cX2_init) (maxL := 1) (ret := none) (by decide) rfl ?_
  intro p e s m args below meth cd s₁ B hml hv
  obtain ⟨rfl, hG⟩ := hv
  have hx := B.exec
  have hb := B.bytes
  have hr := B.returns
  have hts := atoms_spec (ws := wsX2_init) B.pre
  have hown : s.vm.findClass RX2 = some m.cls := findClass_of_methodNamed B.named
  have hlocks := B.notSynchronized
  have hin2 : meth.name = "<init>" := (name_of_methodNamed B.named B.method).1
  have hC := hG.enter
  have hK := hG.2.2.2.1
  have hi1 : ∀ w ∈ wsX10, w ∈ wsX2_init := by decide +kernel
  have hi2 : ∀ w ∈ wsX20, w ∈ wsX2_init := by decide +kernel
  have w0 := hts (.methodLink RX2 1 objectInit) (by decide +kernel)
  have w1 := hts (.instanceMethod objectInit) (by decide +kernel)
  have w2 := hts (.code objectInit ⟨#[0xb1]⟩ 1 none) (by decide +kernel)
  have w3 := hts (.classLink RX2 7 RX1) (by decide +kernel)
  have w4 := hts (.instantiable RX1 3) (by decide +kernel)
  have w5 := hts (.initialized RX1) (by decide +kernel)
  have w6 := hts (.instanceMethod yX1_init) (by decide +kernel)
  have w7 := hts (.fieldLink RX2 10 "MarketSquare$Today" "stall" "LMarketSquare$Spot;") (by decide +kernel)
  have hl := lv_entry ([.ref th]) (n := 1) (Nat.le_of_ble_eq_true rfl)
  rw [lg_entry_eq]
  generalize (lg_sl ([.ref th]) ++ List.replicate (1 - (lg_sl ([.ref th])).length) Slot.unset).toArray = ls at hl ⊢
  have hl : lv_has ls 1 [(0, .ref th)] := hl
  refine lv_aload_n hx hb dX2_init_0 rfl (lv_at hl 0 rfl) ?_
  refine z_obj hx hb hown w0 w1 w2 (by rw [hml]; exact hl.1) dX2_init_1 (Nat.le_of_ble_eq_true rfl) (Nat.le_of_ble_eq_true rfl) ?_
  refine lv_aload_n hx hb dX2_init_4 rfl (lv_at hl 0 rfl) ?_
  refine z_new (Zn := fun q => (znw c q, r, o)) (ci := 1) (C := RX1) (T := TX1) (N := 3) (fs := [.int 0, .int 0, .int 0]) hx hb hts hi1 tyX1 tyX1_ok hown w3 w4 w5 hK hG.1 hC rfl (fun j hj => by rcases (show j = 0 ∨ j = 1 ∨ j = 2 by omega) with rfl | rfl | rfl <;> rfl) (fun q => by rw [zc_1]; simp [zi_znw, zl_znw, zr_znw, va_rf]) (fun q => zOff.nw) (Nat.le_of_ble_eq_true rfl) (Nat.le_of_ble_eq_true rfl) dX2_init_5 (fun q1 H hq_q1 hC => ?_)
  have n_q1 : th ≠ q1 := fun e => by rw [e] at hk_th; omega
  have hk_th : (va_up K q1 1) th = 2 := zup_old hq_q1 hk_th (by decide)
  have hk_q1 : (va_up K q1 1) q1 = 1 := va_up_self _ _ _
  refine lv_dup hx hb dX2_init_8 rfl ?_
  refine z_cv (z_rIN (As := []) (rest := [.ref q1, .ref th]) ⟨hx, hb, hml, hown, hts⟩ (c_X1_init (l := l) (D := D) (cy := cy) (base := base) (st := st) (K := (va_up K q1 1)) (L := (L ++ [q1])) (c := (znw c q1)) (r := r) (o := o) (z := 0) q1 hk_q1 rfl) ⟨va_cnB 0 hts gX2_init_X1_init_n9 rfl rfl rfl (hG.2.2.2.2.2.2.2.2.1 _ (List.mem_of_getElem? (i := 2) rfl)) w5 (by decide +kernel) ⟨(Nat.le_of_ble_eq_true rfl), (Nat.le_of_ble_eq_true rfl)⟩, rfl, w6⟩ hG hC rfl hl.1 rfl (lv_room (Nat.le_of_ble_eq_true rfl)) dX2_init_9 ⟨(Nat.le_of_ble_eq_true rfl), (Nat.le_of_ble_eq_true rfl)⟩) hC (fun H locs hC => ?_)
  refine zp_2_0 (x := some q1) (c1 := (zur (znw c q1) 40 th 0 (some q1))) hx hb hts hi2 hown hK hC hk_th w7 hin2 rfl rfl dX2_init_12 (fun H locs hC => ?_)
  exact z_vretA (P := fun K1 L1 c1 => g_X2_init K L c th K1 L1 c1) hx hb hr hlocks hC ⟨q1, hq_q1, rfl, rfl, rfl⟩ dX2_init_15
def g_X0_init (K : Nat → Nat) (L : List Nat) (c : zS) (th : Nat) (K9 : Nat → Nat) (L9 : List Nat) (c9 : zS) : Prop :=
  ∃ q1 : Nat, 255 ≤ K q1 ∧ ∃ q2 : Nat, 255 ≤ (va_up K q1 8) q2 ∧ K9 = (va_up (va_up K q1 8) q2 16) ∧ L9 = ((L ++ [q1]) ++ [q2]) ∧ c9 = (zur (znw (zur (znw c q1) 0 th 0 (some q1)) q2) 1 th 0 (some q2))
theorem g_X0_init_old {K : Nat → Nat} {L : List Nat} {c : zS} {th : Nat} {K9 : Nat → Nat} {L9 : List Nat} {c9 : zS} (h : g_X0_init K L c th K9 L9 c9) : ∀ a, K a < 255 → K9 a = K a := by
  obtain ⟨q1, hq_q1, q2, hq_q2, rfl, rfl, rfl⟩ := h
  intro a ha
  have h0 : K a < 255 := ha
  have e0 : K a = K a := rfl
  have e1 := zup_old (k := 8) hq_q1 e0 ha
  have e2 := zup_old (k := 16) hq_q2 e1 ha
  exact e2
set_option maxRecDepth 100000 in
set_option maxHeartbeats 4000000 in
theorem c_X0_init {l : Launch} {D : va_G} {cy : Nat → ClassId} {base : Nat} {st : Nat → Nat} {K : Nat → Nat} {L : List Nat} {c r : zS} {o : Int64} (th : Nat) (hk_th : K th = 0) : Met l yX0_init wsX0_init ({ frames := 1, cells := 2, slots := 400, locals := 24 }) (va_Pc [.ref th] (zGW zts0 zns0 D cy base st K L (c, r, o))) (va_Qv (fun (u : (Nat → Nat) × List Nat × zS) => g_X0_init K L c th u.1 u.2.1 u.2.2) (fun u => zB D cy base u.1 u.2.1 (u.2.2, r, o)) (zA base)) 2 400 (zA base) := by
  refine Met.ofW (cc := cX0_init) (maxL := 1) (ret := none) (by decide) rfl ?_
  intro p e s m args below meth cd s₁ B hml hv
  obtain ⟨rfl, hG⟩ := hv
  have hx := B.exec
  have hb := B.bytes
  have hr := B.returns
  have hts := atoms_spec (ws := wsX0_init) B.pre
  have hown : s.vm.findClass RX0 = some m.cls := findClass_of_methodNamed B.named
  have hlocks := B.notSynchronized
  have hin2 : meth.name = "<init>" := (name_of_methodNamed B.named B.method).1
  have hC := hG.enter
  have hK := hG.2.2.2.1
  have hi0 : ∀ w ∈ wsX00, w ∈ wsX0_init := by decide +kernel
  have w0 := hts (.methodLink RX0 3 objectInit) (by decide +kernel)
  have w1 := hts (.instanceMethod objectInit) (by decide +kernel)
  have w2 := hts (.code objectInit ⟨#[0xb1]⟩ 1 none) (by decide +kernel)
  have w3 := hts (.arrayClass .int) (by decide +kernel)
  have w4 := hts (.fieldLink RX0 9 "MarketSquare$Row" "marks" "[I") (by decide +kernel)
  have w5 := hts (.classLink RX0 15 RX4) (by decide +kernel)
  have w6 := hts (.fieldLink RX0 17 "MarketSquare$Row" "holders" "[LMarketSquare$Trader;") (by decide +kernel)
  have hl := lv_entry ([.ref th]) (n := 1) (Nat.le_of_ble_eq_true rfl)
  rw [lg_entry_eq]
  generalize (lg_sl ([.ref th]) ++ List.replicate (1 - (lg_sl ([.ref th])).length) Slot.unset).toArray = ls at hl ⊢
  have hl : lv_has ls 1 [(0, .ref th)] := hl
  refine lv_aload_n hx hb dX0_init_0 rfl (lv_at hl 0 rfl) ?_
  refine z_obj hx hb hown w0 w1 w2 (by rw [hml]; exact hl.1) dX0_init_1 (Nat.le_of_ble_eq_true rfl) (Nat.le_of_ble_eq_true rfl) ?_
  refine lv_aload_n hx hb dX0_init_4 rfl (lv_at hl 0 rfl) ?_
  refine lv_sipush (v := 200) hx hb dX0_init_5 (by decide) ?_
  refine z_newai (Zn := fun q => (znw c q, r, o)) (lab := 8) (N' := 200) hx hb w3 hK hG.1 hC (by decide) (by decide) (by decide) (Nat.le_of_ble_eq_true rfl) (Nat.le_of_ble_eq_true rfl) (fun q => by rw [zc_8]; rw [zi_znq]) (fun q => zOff.nw) dX0_init_8 (fun q1 H hq_q1 hC => ?_)
  have n_q1 : th ≠ q1 := fun e => by rw [e] at hk_th; omega
  have hk_th : (va_up K q1 8) th = 0 := zup_old hq_q1 hk_th (by decide)
  have hk_q1 : (va_up K q1 8) q1 = 8 := va_up_self _ _ _
  refine zp_0_0 (x := some q1) (c1 := (zur (znw c q1) 0 th 0 (some q1))) hx hb hts hi0 hown hK hC hk_th w4 hin2 rfl rfl dX0_init_10 (fun H locs hC => ?_)
  refine lv_aload_n hx hb dX0_init_13 rfl (lv_at hl 0 rfl) ?_
  refine lv_sipush (v := 200) hx hb dX0_init_14 (by decide) ?_
  refine z_newq (Zn := fun q => (znw (zur (znw c q1) 0 th 0 (some q1)) q, r, o)) (lab := 16) (N' := 200) (ti := 6) (C := RX4) hx hb hown w5 (hG.2.2.2.2.2.2.2.2.2.2.2.1 _ (by decide +kernel)) hK rfl hG.1 hC (by decide) (by decide) (by decide) (Nat.le_of_ble_eq_true rfl) (Nat.le_of_ble_eq_true rfl) (fun q => by rw [zc_16]; rw [zr_znq]) (fun q => zOff.nw) dX0_init_17 (fun q2 H hq_q2 hC => ?_)
  have n_q2 : th ≠ q2 := fun e => by rw [e] at hk_th; omega
  have hk_th : (va_up (va_up K q1 8) q2 16) th = 0 := zup_old hq_q2 hk_th (by decide)
  have hk_q2 : (va_up (va_up K q1 8) q2 16) q2 = 16 := va_up_self _ _ _
  refine zp_0_1 (x := some q2) (c1 := (zur (znw (zur (znw c q1) 0 th 0 (some q1)) q2) 1 th 0 (some q2))) hx hb hts hi0 hown hK hC hk_th w6 hin2 rfl rfl dX0_init_20 (fun H locs hC => ?_)
  exact z_vretA (P := fun K1 L1 c1 => g_X0_init K L c th K1 L1 c1) hx hb hr hlocks hC ⟨q1, hq_q1, q2, hq_q2, rfl, rfl, rfl⟩ dX0_init_23
def g_X4_init (K : Nat → Nat) (L : List Nat) (c : zS) (th : Nat) (p1 : Int32) (p2 : Int32) (t3 : Nat) (p4 : Int32) (p5 : Int32) (K9 : Nat → Nat) (L9 : List Nat) (c9 : zS) : Prop :=
  ∃ q1 : Nat, 255 ≤ K q1 ∧ ∃ q2 : Nat, 255 ≤ (va_up K q1 1) q2 ∧ ∃ (K3 : Nat → Nat) (L3 : List Nat) (c3 : zS), g_X5_init (va_up (va_up K q1 1) q2 5) ((L ++ [q1]) ++ [q2]) (znw (zur (znw c q1) 83 th 0 (some q1)) q2) q2 K3 L3 c3 ∧ ∃ q4 : Nat, 255 ≤ K3 q4 ∧ ∃ (K5 : Nat → Nat) (L5 : List Nat) (c5 : zS), g_X2_init (va_up K3 q4 2) (L3 ++ [q4]) (znw (zur c3 84 th 0 (some q2)) q4) q4 K5 L5 c5 ∧ K9 = K5 ∧ L9 = L5 ∧ c9 = (zui (zui (zur (zui (zui (zui (zui (zur c5 85 th 0 (some q4)) 88 th 0 4095) 92 th 0 (-1)) 80 th 0 p1) 86 th 0 p2) 81 th 0 (some t3)) 82 th 0 p4) 87 th 0 p5)
theorem g_X4_init_old {K : Nat → Nat} {L : List Nat} {c : zS} {th : Nat} {p1 : Int32} {p2 : Int32} {t3 : Nat} {p4 : Int32} {p5 : Int32} {K9 : Nat → Nat} {L9 : List Nat} {c9 : zS} (h : g_X4_init K L c th p1 p2 t3 p4 p5 K9 L9 c9) : ∀ a, K a < 255 → K9 a = K a := by
  obtain ⟨q1, hq_q1, q2, hq_q2, K3, L3, c3, hP3, q4, hq_q4, K5, L5, c5, hP5, rfl, rfl, rfl⟩ := h
  intro a ha
  have h0 : K a < 255 := ha
  have e0 : K a = K a := rfl
  have e1 := zup_old (k := 1) hq_q1 e0 ha
  have e2 := zup_old (k := 5) hq_q2 e1 ha
  have e3 := (g_X5_init_old hP3 a (by rw [e2]; exact ha)).trans e2
  have e4 := zup_old (k := 2) hq_q4 e3 ha
  have e5 := (g_X2_init_old hP5 a (by rw [e4]; exact ha)).trans e4
  exact e5
set_option maxRecDepth 100000 in
set_option maxHeartbeats 4000000 in
theorem c_X4_init {l : Launch} {D : va_G} {cy : Nat → ClassId} {base : Nat} {st : Nat → Nat} {K : Nat → Nat} {L : List Nat} {c r : zS} {o : Int64} (th : Nat) (p1 : Int32) (p2 : Int32) (t3 : Nat) (p4 : Int32) (p5 : Int32) (hk_th : K th = 4) (hk_t3 : K t3 = 3) : Met l yX4_init wsX4_init ({ frames := 3, cells := 6, slots := 42, locals := 64 }) (va_Pc [.ref th, .int p1, .int p2, .ref t3, .int p4, .int p5] (zGW zts0 zns0 D cy base st K L (c, r, o))) (va_Qv (fun (u : (Nat → Nat) × List Nat × zS) => g_X4_init K L c th p1 p2 t3 p4 p5 u.1 u.2.1 u.2.2) (fun u => zB D cy base u.1 u.2.1 (u.2.2, r, o)) (zA base)) 6 42 (zA base) := by
  refine Met.ofW (cc := cX4_init) (maxL := 6) (ret := none) (by decide) rfl ?_
  intro p e s m args below meth cd s₁ B hml hv
  obtain ⟨rfl, hG⟩ := hv
  have hx := B.exec
  have hb := B.bytes
  have hr := B.returns
  have hts := atoms_spec (ws := wsX4_init) B.pre
  have hown : s.vm.findClass RX4 = some m.cls := findClass_of_methodNamed B.named
  have hlocks := B.notSynchronized
  have hin2 : meth.name = "<init>" := (name_of_methodNamed B.named B.method).1
  have hC := hG.enter
  have hK := hG.2.2.2.1
  have hi1 : ∀ w ∈ wsX10, w ∈ wsX4_init := by decide +kernel
  have hi2 : ∀ w ∈ wsX20, w ∈ wsX4_init := by decide +kernel
  have hi4 : ∀ w ∈ wsX40, w ∈ wsX4_init := by decide +kernel
  have hi5 : ∀ w ∈ wsX50, w ∈ wsX4_init := by decide +kernel
  have w0 := hts (.methodLink RX4 3 objectInit) (by decide +kernel)
  have w1 := hts (.instanceMethod objectInit) (by decide +kernel)
  have w2 := hts (.code objectInit ⟨#[0xb1]⟩ 1 none) (by decide +kernel)
  have w3 := hts (.classLink RX4 9 RX1) (by decide +kernel)
  have w4 := hts (.instantiable RX1 3) (by decide +kernel)
  have w5 := hts (.initialized RX1) (by decide +kernel)
  have w6 := hts (.instanceMethod yX1_init) (by decide +kernel)
  have w7 := hts (.fieldLink RX4 12 "MarketSquare$Trader" "pitch" "LMarketSquare$Spot;") (by decide +kernel)
  have w8 := hts (.classLink RX4 18 RX5) (by decide +kernel)
  have w9 := hts (.instantiable RX5 4) (by decide +kernel)
  have w10 := hts (.initialized RX5) (by decide +kernel)
  have w11 := hts (.instanceMethod yX5_init) (by decide +kernel)
  have w12 := hts (.fieldLink RX4 21 "MarketSquare$Trader" "wish" "LMarketSquare$Wish;") (by decide +kernel)
  have w13 := hts (.classLink RX4 25 RX2) (by decide +kernel)
  have w14 := hts (.instantiable RX2 8) (by decide +kernel)
  have w15 := hts (.initialized RX2) (by decide +kernel)
  have w16 := hts (.instanceMethod yX2_init) (by decide +kernel)
  have w17 := hts (.fieldLink RX4 28 "MarketSquare$Trader" "today" "LMarketSquare$Today;") (by decide +kernel)
  have w18 := hts (.fieldLink RX4 32 "MarketSquare$Trader" "months" "I") (by decide +kernel)
  have w19 := hts (.fieldLink RX4 36 "MarketSquare$Trader" "last" "I") (by decide +kernel)
  have w20 := hts (.fieldLink RX4 39 "MarketSquare$Trader" "number" "I") (by decide +kernel)
  have w21 := hts (.fieldLink RX4 42 "MarketSquare$Trader" "kind" "I") (by decide +kernel)
  have w22 := hts (.fieldLink RX4 45 "MarketSquare$Trader" "trade" "LMarketSquare$Trade;") (by decide +kernel)
  have w23 := hts (.fieldLink RX4 49 "MarketSquare$Trader" "front" "I") (by decide +kernel)
  have w24 := hts (.fieldLink RX4 52 "MarketSquare$Trader" "rank" "I") (by decide +kernel)
  have hl := lv_entry ([.ref th, .int p1, .int p2, .ref t3, .int p4, .int p5]) (n := 6) (Nat.le_of_ble_eq_true rfl)
  rw [lg_entry_eq]
  generalize (lg_sl ([.ref th, .int p1, .int p2, .ref t3, .int p4, .int p5]) ++ List.replicate (6 - (lg_sl ([.ref th, .int p1, .int p2, .ref t3, .int p4, .int p5])).length) Slot.unset).toArray = ls at hl ⊢
  have hl : lv_has ls 6 [(0, .ref th), (1, .int p1), (2, .int p2), (3, .ref t3), (4, .int p4), (5, .int p5)] := hl
  refine lv_aload_n hx hb dX4_init_0 rfl (lv_at hl 0 rfl) ?_
  refine z_obj hx hb hown w0 w1 w2 (by rw [hml]; exact hl.1) dX4_init_1 (Nat.le_of_ble_eq_true rfl) (Nat.le_of_ble_eq_true rfl) ?_
  refine lv_aload_n hx hb dX4_init_4 rfl (lv_at hl 0 rfl) ?_
  refine z_new (Zn := fun q => (znw c q, r, o)) (ci := 1) (C := RX1) (T := TX1) (N := 3) (fs := [.int 0, .int 0, .int 0]) hx hb hts hi1 tyX1 tyX1_ok hown w3 w4 w5 hK hG.1 hC rfl (fun j hj => by rcases (show j = 0 ∨ j = 1 ∨ j = 2 by omega) with rfl | rfl | rfl <;> rfl) (fun q => by rw [zc_1]; simp [zi_znw, zl_znw, zr_znw, va_rf]) (fun q => zOff.nw) (Nat.le_of_ble_eq_true rfl) (Nat.le_of_ble_eq_true rfl) dX4_init_5 (fun q1 H hq_q1 hC => ?_)
  have n_q1 : th ≠ q1 := fun e => by rw [e] at hk_th; omega
  have hk_th : (va_up K q1 1) th = 4 := zup_old hq_q1 hk_th (by decide)
  have hk_t3 : (va_up K q1 1) t3 = 3 := zup_old hq_q1 hk_t3 (by decide)
  have hk_q1 : (va_up K q1 1) q1 = 1 := va_up_self _ _ _
  refine lv_dup hx hb dX4_init_8 rfl ?_
  refine z_cv (z_rIN (As := []) (rest := [.ref q1, .ref th]) ⟨hx, hb, hml, hown, hts⟩ (c_X1_init (l := l) (D := D) (cy := cy) (base := base) (st := st) (K := (va_up K q1 1)) (L := (L ++ [q1])) (c := (znw c q1)) (r := r) (o := o) (z := 0) q1 hk_q1 rfl) ⟨va_cnB 0 hts gX4_init_X1_init_n11 rfl rfl rfl (hG.2.2.2.2.2.2.2.2.1 _ (List.mem_of_getElem? (i := 3) rfl)) w5 (by decide +kernel) ⟨(Nat.le_of_ble_eq_true rfl), (Nat.le_of_ble_eq_true rfl)⟩, rfl, w6⟩ hG hC rfl hl.1 rfl (lv_room (Nat.le_of_ble_eq_true rfl)) dX4_init_9 ⟨(Nat.le_of_ble_eq_true rfl), (Nat.le_of_ble_eq_true rfl)⟩) hC (fun H locs hC => ?_)
  refine zp_4_3 (x := some q1) (c1 := (zur (znw c q1) 83 th 0 (some q1))) hx hb hts hi4 hown hK hC hk_th w7 hin2 rfl rfl dX4_init_12 (fun H locs hC => ?_)
  refine lv_aload_n hx hb dX4_init_15 rfl (lv_at hl 0 rfl) ?_
  refine z_new (Zn := fun q => (znw (zur (znw c q1) 83 th 0 (some q1)) q, r, o)) (ci := 5) (C := RX5) (T := TX5) (N := 4) (fs := [.null, .null, .int 0, .int 0]) hx hb hts hi5 tyX5 tyX5_ok hown w8 w9 w10 hK hG.1 hC rfl (fun j hj => by rcases (show j = 0 ∨ j = 1 ∨ j = 2 ∨ j = 3 by omega) with rfl | rfl | rfl | rfl <;> rfl) (fun q => by rw [zc_5]; simp [zi_znw, zl_znw, zr_znw, va_rf]) (fun q => zOff.nw) (Nat.le_of_ble_eq_true rfl) (Nat.le_of_ble_eq_true rfl) dX4_init_16 (fun q2 H hq_q2 hC => ?_)
  have n_q2 : th ≠ q2 := fun e => by rw [e] at hk_th; omega
  have hk_th : (va_up (va_up K q1 1) q2 5) th = 4 := zup_old hq_q2 hk_th (by decide)
  have hk_t3 : (va_up (va_up K q1 1) q2 5) t3 = 3 := zup_old hq_q2 hk_t3 (by decide)
  have hk_q2 : (va_up (va_up K q1 1) q2 5) q2 = 5 := va_up_self _ _ _
  refine lv_dup hx hb dX4_init_19 rfl ?_
  refine z_cvA (z_rIN (As := []) (rest := [.ref q2, .ref th]) ⟨hx, hb, hml, hown, hts⟩ (c_X5_init (l := l) (D := D) (cy := cy) (base := base) (st := st) (K := (va_up (va_up K q1 1) q2 5)) (L := ((L ++ [q1]) ++ [q2])) (c := (znw (zur (znw c q1) 83 th 0 (some q1)) q2)) (r := r) (o := o) q2 hk_q2) ⟨va_cnB 0 hts gX4_init_X5_init_n20 rfl rfl rfl (hG.2.2.2.2.2.2.2.2.1 _ (List.mem_of_getElem? (i := 4) rfl)) w10 (by decide +kernel) ⟨(Nat.le_of_ble_eq_true rfl), (Nat.le_of_ble_eq_true rfl)⟩, rfl, w11⟩ hG hC rfl hl.1 rfl (lv_room (Nat.le_of_ble_eq_true rfl)) dX4_init_20 ⟨(Nat.le_of_ble_eq_true rfl), (Nat.le_of_ble_eq_true rfl)⟩) hC (fun K3 L3 c3 H locs hP3 hC => ?_)
  have hk_th : K3 th = 4 := (g_X5_init_old hP3 _ (by rw [hk_th]; decide)).trans hk_th
  have hk_t3 : K3 t3 = 3 := (g_X5_init_old hP3 _ (by rw [hk_t3]; decide)).trans hk_t3
  have hk_q2 : K3 q2 = 5 := (g_X5_init_old hP3 _ (by rw [hk_q2]; decide)).trans hk_q2
  refine zp_4_4 (x := some q2) (c1 := (zur c3 84 th 0 (some q2))) hx hb hts hi4 hown hK hC hk_th w12 hin2 rfl rfl dX4_init_23 (fun H locs hC => ?_)
  refine lv_aload_n hx hb dX4_init_26 rfl (lv_at hl 0 rfl) ?_
  refine z_new (Zn := fun q => (znw (zur c3 84 th 0 (some q2)) q, r, o)) (ci := 2) (C := RX2) (T := TX2) (N := 8) (fs := [.null, .int 0, .int 0, .int 0, .int 0, .int 0, .int 0, .int 0]) hx hb hts hi2 tyX2 tyX2_ok hown w13 w14 w15 hK hG.1 hC rfl (fun j hj => by rcases (show j = 0 ∨ j = 1 ∨ j = 2 ∨ j = 3 ∨ j = 4 ∨ j = 5 ∨ j = 6 ∨ j = 7 by omega) with rfl | rfl | rfl | rfl | rfl | rfl | rfl | rfl <;> rfl) (fun q => by rw [zc_2]; simp [zi_znw, zl_znw, zr_znw, va_rf]) (fun q => zOff.nw) (Nat.le_of_ble_eq_true rfl) (Nat.le_of_ble_eq_true rfl) dX4_init_27 (fun q4 H hq_q4 hC => ?_)
  have n_q4 : th ≠ q4 := fun e => by rw [e] at hk_th; omega
  have hk_th : (va_up K3 q4 2) th = 4 := zup_old hq_q4 hk_th (by decide)
  have hk_t3 : (va_up K3 q4 2) t3 = 3 := zup_old hq_q4 hk_t3 (by decide)
  have hk_q4 : (va_up K3 q4 2) q4 = 2 := va_up_self _ _ _
  refine lv_dup hx hb dX4_init_30 rfl ?_
  refine z_cvA (z_rIN (As := []) (rest := [.ref q4, .ref th]) ⟨hx, hb, hml, hown, hts⟩ (c_X2_init (l := l) (D := D) (cy := cy) (base := base) (st := st) (K := (va_up K3 q4 2)) (L := (L3 ++ [q4])) (c := (znw (zur c3 84 th 0 (some q2)) q4)) (r := r) (o := o) q4 hk_q4) ⟨va_cnB 0 hts gX4_init_X2_init_n27 rfl rfl rfl (hG.2.2.2.2.2.2.2.2.1 _ (List.mem_of_getElem? (i := 5) rfl)) w15 (by decide +kernel) ⟨(Nat.le_of_ble_eq_true rfl), (Nat.le_of_ble_eq_true rfl)⟩, rfl, w16⟩ hG hC rfl hl.1 rfl (lv_room (Nat.le_of_ble_eq_true rfl)) dX4_init_31 ⟨(Nat.le_of_ble_eq_true rfl), (Nat.le_of_ble_eq_true rfl)⟩) hC (fun K5 L5 c5 H locs hP5 hC => ?_)
  have hk_th : K5 th = 4 := (g_X2_init_old hP5 _ (by rw [hk_th]; decide)).trans hk_th
  have hk_t3 : K5 t3 = 3 := (g_X2_init_old hP5 _ (by rw [hk_t3]; decide)).trans hk_t3
  have hk_q4 : K5 q4 = 2 := (g_X2_init_old hP5 _ (by rw [hk_q4]; decide)).trans hk_q4
  refine zp_4_5 (x := some q4) (c1 := (zur c5 85 th 0 (some q4))) hx hb hts hi4 hown hK hC hk_th w17 hin2 rfl rfl dX4_init_34 (fun H locs hC => ?_)
  refine lv_aload_n hx hb dX4_init_37 rfl (lv_at hl 0 rfl) ?_
  refine lv_sipush (v := 4095) hx hb dX4_init_38 (by decide) ?_
  refine zp_4_8 (c1 := (zui (zur c5 85 th 0 (some q4)) 88 th 0 4095)) hx hb hts hi4 hown hK hC hk_th w18 rfl dX4_init_41 (fun H locs hC => ?_)
  refine lv_aload_n hx hb dX4_init_44 rfl (lv_at hl 0 rfl) ?_
  refine lv_iconst (v := (-1)) hx hb dX4_init_45 (by decide) ?_
  refine zp_4_12 (c1 := (zui (zui (zur c5 85 th 0 (some q4)) 88 th 0 4095) 92 th 0 (-1))) hx hb hts hi4 hown hK hC hk_th w19 rfl dX4_init_46 (fun H locs hC => ?_)
  refine lv_aload_n hx hb dX4_init_49 rfl (lv_at hl 0 rfl) ?_
  refine lv_iload_n hx hb dX4_init_50 rfl (lv_at hl 1 rfl) ?_
  refine zp_4_0 (c1 := (zui (zui (zui (zur c5 85 th 0 (some q4)) 88 th 0 4095) 92 th 0 (-1)) 80 th 0 p1)) hx hb hts hi4 hown hK hC hk_th w20 hin2 rfl rfl dX4_init_51 (fun H locs hC => ?_)
  refine lv_aload_n hx hb dX4_init_54 rfl (lv_at hl 0 rfl) ?_
  refine lv_iload_n hx hb dX4_init_55 rfl (lv_at hl 2 rfl) ?_
  refine zp_4_6 (c1 := (zui (zui (zui (zui (zur c5 85 th 0 (some q4)) 88 th 0 4095) 92 th 0 (-1)) 80 th 0 p1) 86 th 0 p2)) hx hb hts hi4 hown hK hC hk_th w21 rfl dX4_init_56 (fun H locs hC => ?_)
  refine lv_aload_n hx hb dX4_init_59 rfl (lv_at hl 0 rfl) ?_
  refine lv_aload_n hx hb dX4_init_60 rfl (lv_at hl 3 rfl) ?_
  refine zp_4_1 (x := some t3) (c1 := (zur (zui (zui (zui (zui (zur c5 85 th 0 (some q4)) 88 th 0 4095) 92 th 0 (-1)) 80 th 0 p1) 86 th 0 p2) 81 th 0 (some t3))) hx hb hts hi4 hown hK hC hk_th w22 hin2 rfl rfl dX4_init_61 (fun H locs hC => ?_)
  refine lv_aload_n hx hb dX4_init_64 rfl (lv_at hl 0 rfl) ?_
  refine lv_iload hx hb dX4_init_65 (lv_at hl 4 rfl) ?_
  refine zp_4_2 (c1 := (zui (zur (zui (zui (zui (zui (zur c5 85 th 0 (some q4)) 88 th 0 4095) 92 th 0 (-1)) 80 th 0 p1) 86 th 0 p2) 81 th 0 (some t3)) 82 th 0 p4)) hx hb hts hi4 hown hK hC hk_th w23 hin2 rfl rfl dX4_init_67 (fun H locs hC => ?_)
  refine lv_aload_n hx hb dX4_init_70 rfl (lv_at hl 0 rfl) ?_
  refine lv_iload hx hb dX4_init_71 (lv_at hl 5 rfl) ?_
  refine zp_4_7 (c1 := (zui (zui (zur (zui (zui (zui (zui (zur c5 85 th 0 (some q4)) 88 th 0 4095) 92 th 0 (-1)) 80 th 0 p1) 86 th 0 p2) 81 th 0 (some t3)) 82 th 0 p4) 87 th 0 p5)) hx hb hts hi4 hown hK hC hk_th w24 rfl dX4_init_73 (fun H locs hC => ?_)
  exact z_vretA (P := fun K1 L1 c1 => g_X4_init K L c th p1 p2 t3 p4 p5 K1 L1 c1) hx hb hr hlocks hC ⟨q1, hq_q1, q2, hq_q2, K3, L3, c3, hP3, q4, hq_q4, K5, L5, c5, hP5, rfl, rfl, rfl⟩ dX4_init_76
def g_mk (th : Nat) : List Nat → (Nat → Nat) → List Nat → zS → (Nat → Nat) → List Nat → zS → Prop
  | [], K, L, r, K9, L9, r9 => K9 = K ∧ L9 = L ∧ r9 = r
  | f :: fs, K, L, r, K9, L9, r9 => ∃ q : Nat, 255 ≤ K q ∧ g_mk th fs (va_up K q (100 + f)) (L ++ [q]) (zur (znw r q) f th 0 (some q)) K9 L9 r9
theorem g_mk_old {th : Nat} : ∀ {fs : List Nat} {K : Nat → Nat} {L : List Nat} {r : zS} {K9 : Nat → Nat} {L9 : List Nat} {r9 : zS}, g_mk th fs K L r K9 L9 r9 → ∀ a, K a < 255 → K9 a = K a
  | [], _, _, _, _, _, _, h, a, _ => by rw [h.1]
  | f :: fs, K, L, r, K9, L9, r9, h, a, ha => by
    obtain ⟨q, hq, h1⟩ := h
    have e1 := zup_old (k := 100 + f) hq (rfl : K a = K a) ha
    exact (g_mk_old h1 a (by rw [e1]; exact ha)).trans e1
def g_X7_init (K : Nat → Nat) (L : List Nat) (r : zS) (th : Nat) (K9 : Nat → Nat) (L9 : List Nat) (c9 : zS) : Prop := g_mk th [1, 2, 3, 4, 5, 6, 8, 9, 10, 11, 12, 13, 14, 15, 16, 17, 18, 19, 20, 21, 22, 23, 24, 25, 26, 27, 28, 29, 30, 31, 32, 33, 34, 45, 46, 47, 49, 50] K L r K9 L9 c9
theorem g_X7_init_old {K : Nat → Nat} {L : List Nat} {r : zS} {th : Nat} {K9 : Nat → Nat} {L9 : List Nat} {c9 : zS} (h : g_X7_init K L r th K9 L9 c9) : ∀ a, K a < 255 → K9 a = K a := g_mk_old h
set_option maxRecDepth 100000 in
set_option maxHeartbeats 4000000 in
theorem c_X7_init {l : Launch} {D : va_G} {cy : Nat → ClassId} {base : Nat} {st : Nat → Nat} {K : Nat → Nat} {L : List Nat} {c r : zS} {o : Int64} (th : Nat) (hk_th : K th = 7) : Met l yX7_init wsX7_init ({ frames := 1, cells := 38, slots := 27101, locals := 24 }) (va_Pc [.ref th] (zGW zts0 zns0 D cy base st K L (c, r, o))) (va_Qv (fun (u : (Nat → Nat) × List Nat × zS) => g_X7_init K L r th u.1 u.2.1 u.2.2) (fun u => zB D cy base u.1 u.2.1 (c, u.2.2, o)) (zA base)) 38 27101 (zA base) := by
  refine Met.ofW (cc := cX7_init) (maxL := 1) (ret := none) (by decide) rfl ?_
  intro p e s m args below meth cd s₁ B hml hv
  obtain ⟨rfl, hG⟩ := hv
  have hx := B.exec
  have hb := B.bytes
  have hr := B.returns
  have hts := atoms_spec (ws := wsX7_init) B.pre
  have hown : s.vm.findClass RX7 = some m.cls := findClass_of_methodNamed B.named
  have hlocks := B.notSynchronized
  have hin2 : meth.name = "<init>" := (name_of_methodNamed B.named B.method).1
  have hC := hG.enter
  have hK := hG.2.2.2.1
  have hi7 : ∀ w ∈ wsX70, w ∈ wsX7_init := by decide +kernel
  have w0 := hts (.methodLink RX7 1 objectInit) (by decide +kernel)
  have w1 := hts (.instanceMethod objectInit) (by decide +kernel)
  have w2 := hts (.code objectInit ⟨#[0xb1]⟩ 1 none) (by decide +kernel)
  have w3 := hts (.arrayClass .int) (by decide +kernel)
  have w4 := hts (.fieldLink RX7 9 "MarketSquareModel" "places" "[I") (by decide +kernel)
  have w5 := hts (.arrayClass .byte) (by decide +kernel)
  have w6 := hts (.fieldLink RX7 13 "MarketSquareModel" "marks" "[B") (by decide +kernel)
  have w7 := hts (.fieldLink RX7 17 "MarketSquareModel" "rates" "[I") (by decide +kernel)
  have w8 := hts (.fieldLink RX7 20 "MarketSquareModel" "limits" "[I") (by decide +kernel)
  have w9 := hts (.arrayClass .boolean) (by decide +kernel)
  have w10 := hts (.fieldLink RX7 23 "MarketSquareModel" "cloth" "[Z") (by decide +kernel)
  have w11 := hts (.fieldLink RX7 27 "MarketSquareModel" "paired" "[Z") (by decide +kernel)
  have w12 := hts (.fieldLink RX7 30 "MarketSquareModel" "kind" "[I") (by decide +kernel)
  have w13 := hts (.fieldLink RX7 33 "MarketSquareModel" "trade" "[I") (by decide +kernel)
  have w14 := hts (.fieldLink RX7 36 "MarketSquareModel" "front" "[I") (by decide +kernel)
  have w15 := hts (.fieldLink RX7 39 "MarketSquareModel" "rank" "[I") (by decide +kernel)
  have w16 := hts (.fieldLink RX7 42 "MarketSquareModel" "hasPitch" "[Z") (by decide +kernel)
  have w17 := hts (.fieldLink RX7 45 "MarketSquareModel" "pitchRow" "[I") (by decide +kernel)
  have w18 := hts (.fieldLink RX7 48 "MarketSquareModel" "pitchPlace" "[I") (by decide +kernel)
  have w19 := hts (.fieldLink RX7 51 "MarketSquareModel" "monthBits" "[I") (by decide +kernel)
  have w20 := hts (.fieldLink RX7 54 "MarketSquareModel" "wishRow" "[I") (by decide +kernel)
  have w21 := hts (.fieldLink RX7 57 "MarketSquareModel" "wishPlace" "[I") (by decide +kernel)
  have w22 := hts (.fieldLink RX7 60 "MarketSquareModel" "wishMany" "[I") (by decide +kernel)
  have w23 := hts (.fieldLink RX7 63 "MarketSquareModel" "any" "[Z") (by decide +kernel)
  have w24 := hts (.fieldLink RX7 66 "MarketSquareModel" "wants" "[Z") (by decide +kernel)
  have w25 := hts (.fieldLink RX7 69 "MarketSquareModel" "isThere" "[Z") (by decide +kernel)
  have w26 := hts (.fieldLink RX7 72 "MarketSquareModel" "gaveWord" "[Z") (by decide +kernel)
  have w27 := hts (.fieldLink RX7 75 "MarketSquareModel" "slighted" "[Z") (by decide +kernel)
  have w28 := hts (.fieldLink RX7 78 "MarketSquareModel" "passed" "[Z") (by decide +kernel)
  have w29 := hts (.fieldLink RX7 81 "MarketSquareModel" "hasLeft" "[Z") (by decide +kernel)
  have w30 := hts (.fieldLink RX7 84 "MarketSquareModel" "stood" "[Z") (by decide +kernel)
  have w31 := hts (.fieldLink RX7 87 "MarketSquareModel" "stands" "[Z") (by decide +kernel)
  have w32 := hts (.fieldLink RX7 90 "MarketSquareModel" "stallRow" "[I") (by decide +kernel)
  have w33 := hts (.fieldLink RX7 93 "MarketSquareModel" "stallPlace" "[I") (by decide +kernel)
  have w34 := hts (.fieldLink RX7 96 "MarketSquareModel" "stallHour" "[I") (by decide +kernel)
  have w35 := hts (.fieldLink RX7 99 "MarketSquareModel" "thereBits" "[I") (by decide +kernel)
  have w36 := hts (.fieldLink RX7 102 "MarketSquareModel" "awayBits" "[I") (by decide +kernel)
  have w37 := hts (.fieldLink RX7 105 "MarketSquareModel" "last" "[I") (by decide +kernel)
  have w38 := hts (.arrayClass .long) (by decide +kernel)
  have w39 := hts (.fieldLink RX7 108 "MarketSquareModel" "owed" "[J") (by decide +kernel)
  have w40 := hts (.fieldLink RX7 112 "MarketSquareModel" "taken" "[Z") (by decide +kernel)
  have w41 := hts (.fieldLink RX7 115 "MarketSquareModel" "run" "[I") (by decide +kernel)
  have w42 := hts (.fieldLink RX7 118 "MarketSquareModel" "row" "[I") (by decide +kernel)
  have w43 := hts (.fieldLink RX7 121 "MarketSquareModel" "ranked" "[I") (by decide +kernel)
  have w44 := hts (.fieldLink RX7 124 "MarketSquareModel" "misses" "[Z") (by decide +kernel)
  have hl := lv_entry ([.ref th]) (n := 1) (Nat.le_of_ble_eq_true rfl)
  rw [lg_entry_eq]
  generalize (lg_sl ([.ref th]) ++ List.replicate (1 - (lg_sl ([.ref th])).length) Slot.unset).toArray = ls at hl ⊢
  have hl : lv_has ls 1 [(0, .ref th)] := hl
  obtain ⟨K0, L0, r0, hacc, hk_th, hC⟩ : ∃ (K1 : Nat → Nat) (L1 : List Nat) (r1 : zS), (∀ K9 L9 r9, g_mk th [1, 2, 3, 4, 5, 6, 8, 9, 10, 11, 12, 13, 14, 15, 16, 17, 18, 19, 20, 21, 22, 23, 24, 25, 26, 27, 28, 29, 30, 31, 32, 33, 34, 45, 46, 47, 49, 50] K1 L1 r1 K9 L9 r9 → g_mk th [1, 2, 3, 4, 5, 6, 8, 9, 10, 11, 12, 13, 14, 15, 16, 17, 18, 19, 20, 21, 22, 23, 24, 25, 26, 27, 28, 29, 30, 31, 32, 33, 34, 45, 46, 47, 49, 50] K L r K9 L9 r9) ∧ K1 th = 7 ∧ zC D cy base K1 L1 (c, r1, o) s.heap s.heap [] := ⟨K, L, r, fun _ _ _ h => h, hk_th, hC⟩
  refine lv_aload_n hx hb dX7_init_0 rfl (lv_at hl 0 rfl) ?_
  refine z_obj hx hb hown w0 w1 w2 (by rw [hml]; exact hl.1) dX7_init_1 (Nat.le_of_ble_eq_true rfl) (Nat.le_of_ble_eq_true rfl) ?_
  refine lv_aload_n hx hb dX7_init_4 rfl (lv_at hl 0 rfl) ?_
  refine lv_bipush (v := 40) hx hb dX7_init_5 (by decide) ?_
  refine z_newai (Zn := fun q => (c, znw r0 q, o)) (lab := 101) (N' := 40) hx hb w3 hK hG.1 hC (by decide) (by decide) (by decide) (Nat.le_of_ble_eq_true rfl) (Nat.le_of_ble_eq_true rfl) (fun q => by rw [zc_101]; rw [zi_znq]) (fun q => zOff.mnw) dX7_init_7 (fun q H hq hC => ?_)
  have hk_th := zup_old (k := 101) hq hk_th (by decide)
  refine zp_7_1 (x := some q) (r1 := zur (znw r0 q) 1 th 0 (some q)) hx hb hts hi7 hown hK hC hk_th w4 hin2 rfl rfl dX7_init_9 (fun H locs hC => ?_)
  obtain ⟨K1, L1, r1, hacc, hk_th, hC⟩ : ∃ (K1 : Nat → Nat) (L1 : List Nat) (r1 : zS), (∀ K9 L9 r9, g_mk th [2, 3, 4, 5, 6, 8, 9, 10, 11, 12, 13, 14, 15, 16, 17, 18, 19, 20, 21, 22, 23, 24, 25, 26, 27, 28, 29, 30, 31, 32, 33, 34, 45, 46, 47, 49, 50] K1 L1 r1 K9 L9 r9 → g_mk th [1, 2, 3, 4, 5, 6, 8, 9, 10, 11, 12, 13, 14, 15, 16, 17, 18, 19, 20, 21, 22, 23, 24, 25, 26, 27, 28, 29, 30, 31, 32, 33, 34, 45, 46, 47, 49, 50] K L r K9 L9 r9) ∧ K1 th = 7 ∧ zC D cy base K1 L1 (c, r1, o) s.heap H locs := ⟨_, _, _, fun _ _ _ h => hacc _ _ _ ⟨q, hq, h⟩, hk_th, hC⟩
  refine lv_aload_n hx hb dX7_init_12 rfl (lv_at hl 0 rfl) ?_
  refine lv_sipush (v := 8000) hx hb dX7_init_13 (by decide) ?_
  refine z_newab (Zn := fun q => (c, znw r1 q, o)) (lab := 102) (N' := 8000) hx hb w5 hK hG.1 hC (by decide) (by decide) (by decide) (Nat.le_of_ble_eq_true rfl) (Nat.le_of_ble_eq_true rfl) (fun q => by rw [zc_102]; rw [zi_znq]) (fun q => zOff.mnw) dX7_init_16 (fun q H hq hC => ?_)
  have hk_th := zup_old (k := 102) hq hk_th (by decide)
  refine zp_7_2 (x := some q) (r1 := zur (znw r1 q) 2 th 0 (some q)) hx hb hts hi7 hown hK hC hk_th w6 hin2 rfl rfl dX7_init_18 (fun H locs hC => ?_)
  obtain ⟨K2, L2, r2, hacc, hk_th, hC⟩ : ∃ (K1 : Nat → Nat) (L1 : List Nat) (r1 : zS), (∀ K9 L9 r9, g_mk th [3, 4, 5, 6, 8, 9, 10, 11, 12, 13, 14, 15, 16, 17, 18, 19, 20, 21, 22, 23, 24, 25, 26, 27, 28, 29, 30, 31, 32, 33, 34, 45, 46, 47, 49, 50] K1 L1 r1 K9 L9 r9 → g_mk th [1, 2, 3, 4, 5, 6, 8, 9, 10, 11, 12, 13, 14, 15, 16, 17, 18, 19, 20, 21, 22, 23, 24, 25, 26, 27, 28, 29, 30, 31, 32, 33, 34, 45, 46, 47, 49, 50] K L r K9 L9 r9) ∧ K1 th = 7 ∧ zC D cy base K1 L1 (c, r1, o) s.heap H locs := ⟨_, _, _, fun _ _ _ h => hacc _ _ _ ⟨q, hq, h⟩, hk_th, hC⟩
  refine lv_aload_n hx hb dX7_init_21 rfl (lv_at hl 0 rfl) ?_
  refine lv_bipush (v := 20) hx hb dX7_init_22 (by decide) ?_
  refine z_newai (Zn := fun q => (c, znw r2 q, o)) (lab := 103) (N' := 20) hx hb w3 hK hG.1 hC (by decide) (by decide) (by decide) (Nat.le_of_ble_eq_true rfl) (Nat.le_of_ble_eq_true rfl) (fun q => by rw [zc_103]; rw [zi_znq]) (fun q => zOff.mnw) dX7_init_24 (fun q H hq hC => ?_)
  have hk_th := zup_old (k := 103) hq hk_th (by decide)
  refine zp_7_3 (x := some q) (r1 := zur (znw r2 q) 3 th 0 (some q)) hx hb hts hi7 hown hK hC hk_th w7 hin2 rfl rfl dX7_init_26 (fun H locs hC => ?_)
  obtain ⟨K3, L3, r3, hacc, hk_th, hC⟩ : ∃ (K1 : Nat → Nat) (L1 : List Nat) (r1 : zS), (∀ K9 L9 r9, g_mk th [4, 5, 6, 8, 9, 10, 11, 12, 13, 14, 15, 16, 17, 18, 19, 20, 21, 22, 23, 24, 25, 26, 27, 28, 29, 30, 31, 32, 33, 34, 45, 46, 47, 49, 50] K1 L1 r1 K9 L9 r9 → g_mk th [1, 2, 3, 4, 5, 6, 8, 9, 10, 11, 12, 13, 14, 15, 16, 17, 18, 19, 20, 21, 22, 23, 24, 25, 26, 27, 28, 29, 30, 31, 32, 33, 34, 45, 46, 47, 49, 50] K L r K9 L9 r9) ∧ K1 th = 7 ∧ zC D cy base K1 L1 (c, r1, o) s.heap H locs := ⟨_, _, _, fun _ _ _ h => hacc _ _ _ ⟨q, hq, h⟩, hk_th, hC⟩
  refine lv_aload_n hx hb dX7_init_29 rfl (lv_at hl 0 rfl) ?_
  refine lv_bipush (v := 20) hx hb dX7_init_30 (by decide) ?_
  refine z_newai (Zn := fun q => (c, znw r3 q, o)) (lab := 104) (N' := 20) hx hb w3 hK hG.1 hC (by decide) (by decide) (by decide) (Nat.le_of_ble_eq_true rfl) (Nat.le_of_ble_eq_true rfl) (fun q => by rw [zc_104]; rw [zi_znq]) (fun q => zOff.mnw) dX7_init_32 (fun q H hq hC => ?_)
  have hk_th := zup_old (k := 104) hq hk_th (by decide)
  refine zp_7_4 (x := some q) (r1 := zur (znw r3 q) 4 th 0 (some q)) hx hb hts hi7 hown hK hC hk_th w8 hin2 rfl rfl dX7_init_34 (fun H locs hC => ?_)
  obtain ⟨K4, L4, r4, hacc, hk_th, hC⟩ : ∃ (K1 : Nat → Nat) (L1 : List Nat) (r1 : zS), (∀ K9 L9 r9, g_mk th [5, 6, 8, 9, 10, 11, 12, 13, 14, 15, 16, 17, 18, 19, 20, 21, 22, 23, 24, 25, 26, 27, 28, 29, 30, 31, 32, 33, 34, 45, 46, 47, 49, 50] K1 L1 r1 K9 L9 r9 → g_mk th [1, 2, 3, 4, 5, 6, 8, 9, 10, 11, 12, 13, 14, 15, 16, 17, 18, 19, 20, 21, 22, 23, 24, 25, 26, 27, 28, 29, 30, 31, 32, 33, 34, 45, 46, 47, 49, 50] K L r K9 L9 r9) ∧ K1 th = 7 ∧ zC D cy base K1 L1 (c, r1, o) s.heap H locs := ⟨_, _, _, fun _ _ _ h => hacc _ _ _ ⟨q, hq, h⟩, hk_th, hC⟩
  refine lv_aload_n hx hb dX7_init_37 rfl (lv_at hl 0 rfl) ?_
  refine lv_bipush (v := 20) hx hb dX7_init_38 (by decide) ?_
  refine z_newaz (Zn := fun q => (c, znw r4 q, o)) (lab := 105) (N' := 20) hx hb w9 hK hG.1 hC (by decide) (by decide) (by decide) (Nat.le_of_ble_eq_true rfl) (Nat.le_of_ble_eq_true rfl) (fun q => by rw [zc_105]; rw [zi_znq]) (fun q => zOff.mnw) dX7_init_40 (fun q H hq hC => ?_)
  have hk_th := zup_old (k := 105) hq hk_th (by decide)
  refine zp_7_5 (x := some q) (r1 := zur (znw r4 q) 5 th 0 (some q)) hx hb hts hi7 hown hK hC hk_th w10 hin2 rfl rfl dX7_init_42 (fun H locs hC => ?_)
  obtain ⟨K5, L5, r5, hacc, hk_th, hC⟩ : ∃ (K1 : Nat → Nat) (L1 : List Nat) (r1 : zS), (∀ K9 L9 r9, g_mk th [6, 8, 9, 10, 11, 12, 13, 14, 15, 16, 17, 18, 19, 20, 21, 22, 23, 24, 25, 26, 27, 28, 29, 30, 31, 32, 33, 34, 45, 46, 47, 49, 50] K1 L1 r1 K9 L9 r9 → g_mk th [1, 2, 3, 4, 5, 6, 8, 9, 10, 11, 12, 13, 14, 15, 16, 17, 18, 19, 20, 21, 22, 23, 24, 25, 26, 27, 28, 29, 30, 31, 32, 33, 34, 45, 46, 47, 49, 50] K L r K9 L9 r9) ∧ K1 th = 7 ∧ zC D cy base K1 L1 (c, r1, o) s.heap H locs := ⟨_, _, _, fun _ _ _ h => hacc _ _ _ ⟨q, hq, h⟩, hk_th, hC⟩
  refine lv_aload_n hx hb dX7_init_45 rfl (lv_at hl 0 rfl) ?_
  refine lv_sipush (v := 400) hx hb dX7_init_46 (by decide) ?_
  refine z_newaz (Zn := fun q => (c, znw r5 q, o)) (lab := 106) (N' := 400) hx hb w9 hK hG.1 hC (by decide) (by decide) (by decide) (Nat.le_of_ble_eq_true rfl) (Nat.le_of_ble_eq_true rfl) (fun q => by rw [zc_106]; rw [zi_znq]) (fun q => zOff.mnw) dX7_init_49 (fun q H hq hC => ?_)
  have hk_th := zup_old (k := 106) hq hk_th (by decide)
  refine zp_7_6 (x := some q) (r1 := zur (znw r5 q) 6 th 0 (some q)) hx hb hts hi7 hown hK hC hk_th w11 hin2 rfl rfl dX7_init_51 (fun H locs hC => ?_)
  obtain ⟨K6, L6, r6, hacc, hk_th, hC⟩ : ∃ (K1 : Nat → Nat) (L1 : List Nat) (r1 : zS), (∀ K9 L9 r9, g_mk th [8, 9, 10, 11, 12, 13, 14, 15, 16, 17, 18, 19, 20, 21, 22, 23, 24, 25, 26, 27, 28, 29, 30, 31, 32, 33, 34, 45, 46, 47, 49, 50] K1 L1 r1 K9 L9 r9 → g_mk th [1, 2, 3, 4, 5, 6, 8, 9, 10, 11, 12, 13, 14, 15, 16, 17, 18, 19, 20, 21, 22, 23, 24, 25, 26, 27, 28, 29, 30, 31, 32, 33, 34, 45, 46, 47, 49, 50] K L r K9 L9 r9) ∧ K1 th = 7 ∧ zC D cy base K1 L1 (c, r1, o) s.heap H locs := ⟨_, _, _, fun _ _ _ h => hacc _ _ _ ⟨q, hq, h⟩, hk_th, hC⟩
  refine lv_aload_n hx hb dX7_init_54 rfl (lv_at hl 0 rfl) ?_
  refine lv_sipush (v := 200) hx hb dX7_init_55 (by decide) ?_
  refine z_newai (Zn := fun q => (c, znw r6 q, o)) (lab := 108) (N' := 200) hx hb w3 hK hG.1 hC (by decide) (by decide) (by decide) (Nat.le_of_ble_eq_true rfl) (Nat.le_of_ble_eq_true rfl) (fun q => by rw [zc_108]; rw [zi_znq]) (fun q => zOff.mnw) dX7_init_58 (fun q H hq hC => ?_)
  have hk_th := zup_old (k := 108) hq hk_th (by decide)
  refine zp_7_8 (x := some q) (r1 := zur (znw r6 q) 8 th 0 (some q)) hx hb hts hi7 hown hK hC hk_th w12 hin2 rfl rfl dX7_init_60 (fun H locs hC => ?_)
  obtain ⟨K7, L7, r7, hacc, hk_th, hC⟩ : ∃ (K1 : Nat → Nat) (L1 : List Nat) (r1 : zS), (∀ K9 L9 r9, g_mk th [9, 10, 11, 12, 13, 14, 15, 16, 17, 18, 19, 20, 21, 22, 23, 24, 25, 26, 27, 28, 29, 30, 31, 32, 33, 34, 45, 46, 47, 49, 50] K1 L1 r1 K9 L9 r9 → g_mk th [1, 2, 3, 4, 5, 6, 8, 9, 10, 11, 12, 13, 14, 15, 16, 17, 18, 19, 20, 21, 22, 23, 24, 25, 26, 27, 28, 29, 30, 31, 32, 33, 34, 45, 46, 47, 49, 50] K L r K9 L9 r9) ∧ K1 th = 7 ∧ zC D cy base K1 L1 (c, r1, o) s.heap H locs := ⟨_, _, _, fun _ _ _ h => hacc _ _ _ ⟨q, hq, h⟩, hk_th, hC⟩
  refine lv_aload_n hx hb dX7_init_63 rfl (lv_at hl 0 rfl) ?_
  refine lv_sipush (v := 200) hx hb dX7_init_64 (by decide) ?_
  refine z_newai (Zn := fun q => (c, znw r7 q, o)) (lab := 109) (N' := 200) hx hb w3 hK hG.1 hC (by decide) (by decide) (by decide) (Nat.le_of_ble_eq_true rfl) (Nat.le_of_ble_eq_true rfl) (fun q => by rw [zc_109]; rw [zi_znq]) (fun q => zOff.mnw) dX7_init_67 (fun q H hq hC => ?_)
  have hk_th := zup_old (k := 109) hq hk_th (by decide)
  refine zp_7_9 (x := some q) (r1 := zur (znw r7 q) 9 th 0 (some q)) hx hb hts hi7 hown hK hC hk_th w13 hin2 rfl rfl dX7_init_69 (fun H locs hC => ?_)
  obtain ⟨K8, L8, r8, hacc, hk_th, hC⟩ : ∃ (K1 : Nat → Nat) (L1 : List Nat) (r1 : zS), (∀ K9 L9 r9, g_mk th [10, 11, 12, 13, 14, 15, 16, 17, 18, 19, 20, 21, 22, 23, 24, 25, 26, 27, 28, 29, 30, 31, 32, 33, 34, 45, 46, 47, 49, 50] K1 L1 r1 K9 L9 r9 → g_mk th [1, 2, 3, 4, 5, 6, 8, 9, 10, 11, 12, 13, 14, 15, 16, 17, 18, 19, 20, 21, 22, 23, 24, 25, 26, 27, 28, 29, 30, 31, 32, 33, 34, 45, 46, 47, 49, 50] K L r K9 L9 r9) ∧ K1 th = 7 ∧ zC D cy base K1 L1 (c, r1, o) s.heap H locs := ⟨_, _, _, fun _ _ _ h => hacc _ _ _ ⟨q, hq, h⟩, hk_th, hC⟩
  refine lv_aload_n hx hb dX7_init_72 rfl (lv_at hl 0 rfl) ?_
  refine lv_sipush (v := 200) hx hb dX7_init_73 (by decide) ?_
  refine z_newai (Zn := fun q => (c, znw r8 q, o)) (lab := 110) (N' := 200) hx hb w3 hK hG.1 hC (by decide) (by decide) (by decide) (Nat.le_of_ble_eq_true rfl) (Nat.le_of_ble_eq_true rfl) (fun q => by rw [zc_110]; rw [zi_znq]) (fun q => zOff.mnw) dX7_init_76 (fun q H hq hC => ?_)
  have hk_th := zup_old (k := 110) hq hk_th (by decide)
  refine zp_7_10 (x := some q) (r1 := zur (znw r8 q) 10 th 0 (some q)) hx hb hts hi7 hown hK hC hk_th w14 hin2 rfl rfl dX7_init_78 (fun H locs hC => ?_)
  obtain ⟨K9, L9, r9, hacc, hk_th, hC⟩ : ∃ (K1 : Nat → Nat) (L1 : List Nat) (r1 : zS), (∀ K9 L9 r9, g_mk th [11, 12, 13, 14, 15, 16, 17, 18, 19, 20, 21, 22, 23, 24, 25, 26, 27, 28, 29, 30, 31, 32, 33, 34, 45, 46, 47, 49, 50] K1 L1 r1 K9 L9 r9 → g_mk th [1, 2, 3, 4, 5, 6, 8, 9, 10, 11, 12, 13, 14, 15, 16, 17, 18, 19, 20, 21, 22, 23, 24, 25, 26, 27, 28, 29, 30, 31, 32, 33, 34, 45, 46, 47, 49, 50] K L r K9 L9 r9) ∧ K1 th = 7 ∧ zC D cy base K1 L1 (c, r1, o) s.heap H locs := ⟨_, _, _, fun _ _ _ h => hacc _ _ _ ⟨q, hq, h⟩, hk_th, hC⟩
  refine lv_aload_n hx hb dX7_init_81 rfl (lv_at hl 0 rfl) ?_
  refine lv_sipush (v := 200) hx hb dX7_init_82 (by decide) ?_
  refine z_newai (Zn := fun q => (c, znw r9 q, o)) (lab := 111) (N' := 200) hx hb w3 hK hG.1 hC (by decide) (by decide) (by decide) (Nat.le_of_ble_eq_true rfl) (Nat.le_of_ble_eq_true rfl) (fun q => by rw [zc_111]; rw [zi_znq]) (fun q => zOff.mnw) dX7_init_85 (fun q H hq hC => ?_)
  have hk_th := zup_old (k := 111) hq hk_th (by decide)
  refine zp_7_11 (x := some q) (r1 := zur (znw r9 q) 11 th 0 (some q)) hx hb hts hi7 hown hK hC hk_th w15 hin2 rfl rfl dX7_init_87 (fun H locs hC => ?_)
  obtain ⟨K10, L10, r10, hacc, hk_th, hC⟩ : ∃ (K1 : Nat → Nat) (L1 : List Nat) (r1 : zS), (∀ K9 L9 r9, g_mk th [12, 13, 14, 15, 16, 17, 18, 19, 20, 21, 22, 23, 24, 25, 26, 27, 28, 29, 30, 31, 32, 33, 34, 45, 46, 47, 49, 50] K1 L1 r1 K9 L9 r9 → g_mk th [1, 2, 3, 4, 5, 6, 8, 9, 10, 11, 12, 13, 14, 15, 16, 17, 18, 19, 20, 21, 22, 23, 24, 25, 26, 27, 28, 29, 30, 31, 32, 33, 34, 45, 46, 47, 49, 50] K L r K9 L9 r9) ∧ K1 th = 7 ∧ zC D cy base K1 L1 (c, r1, o) s.heap H locs := ⟨_, _, _, fun _ _ _ h => hacc _ _ _ ⟨q, hq, h⟩, hk_th, hC⟩
  refine lv_aload_n hx hb dX7_init_90 rfl (lv_at hl 0 rfl) ?_
  refine lv_sipush (v := 200) hx hb dX7_init_91 (by decide) ?_
  refine z_newaz (Zn := fun q => (c, znw r10 q, o)) (lab := 112) (N' := 200) hx hb w9 hK hG.1 hC (by decide) (by decide) (by decide) (Nat.le_of_ble_eq_true rfl) (Nat.le_of_ble_eq_true rfl) (fun q => by rw [zc_112]; rw [zi_znq]) (fun q => zOff.mnw) dX7_init_94 (fun q H hq hC => ?_)
  have hk_th := zup_old (k := 112) hq hk_th (by decide)
  refine zp_7_12 (x := some q) (r1 := zur (znw r10 q) 12 th 0 (some q)) hx hb hts hi7 hown hK hC hk_th w16 hin2 rfl rfl dX7_init_96 (fun H locs hC => ?_)
  obtain ⟨K11, L11, r11, hacc, hk_th, hC⟩ : ∃ (K1 : Nat → Nat) (L1 : List Nat) (r1 : zS), (∀ K9 L9 r9, g_mk th [13, 14, 15, 16, 17, 18, 19, 20, 21, 22, 23, 24, 25, 26, 27, 28, 29, 30, 31, 32, 33, 34, 45, 46, 47, 49, 50] K1 L1 r1 K9 L9 r9 → g_mk th [1, 2, 3, 4, 5, 6, 8, 9, 10, 11, 12, 13, 14, 15, 16, 17, 18, 19, 20, 21, 22, 23, 24, 25, 26, 27, 28, 29, 30, 31, 32, 33, 34, 45, 46, 47, 49, 50] K L r K9 L9 r9) ∧ K1 th = 7 ∧ zC D cy base K1 L1 (c, r1, o) s.heap H locs := ⟨_, _, _, fun _ _ _ h => hacc _ _ _ ⟨q, hq, h⟩, hk_th, hC⟩
  refine lv_aload_n hx hb dX7_init_99 rfl (lv_at hl 0 rfl) ?_
  refine lv_sipush (v := 200) hx hb dX7_init_100 (by decide) ?_
  refine z_newai (Zn := fun q => (c, znw r11 q, o)) (lab := 113) (N' := 200) hx hb w3 hK hG.1 hC (by decide) (by decide) (by decide) (Nat.le_of_ble_eq_true rfl) (Nat.le_of_ble_eq_true rfl) (fun q => by rw [zc_113]; rw [zi_znq]) (fun q => zOff.mnw) dX7_init_103 (fun q H hq hC => ?_)
  have hk_th := zup_old (k := 113) hq hk_th (by decide)
  refine zp_7_13 (x := some q) (r1 := zur (znw r11 q) 13 th 0 (some q)) hx hb hts hi7 hown hK hC hk_th w17 hin2 rfl rfl dX7_init_105 (fun H locs hC => ?_)
  obtain ⟨K12, L12, r12, hacc, hk_th, hC⟩ : ∃ (K1 : Nat → Nat) (L1 : List Nat) (r1 : zS), (∀ K9 L9 r9, g_mk th [14, 15, 16, 17, 18, 19, 20, 21, 22, 23, 24, 25, 26, 27, 28, 29, 30, 31, 32, 33, 34, 45, 46, 47, 49, 50] K1 L1 r1 K9 L9 r9 → g_mk th [1, 2, 3, 4, 5, 6, 8, 9, 10, 11, 12, 13, 14, 15, 16, 17, 18, 19, 20, 21, 22, 23, 24, 25, 26, 27, 28, 29, 30, 31, 32, 33, 34, 45, 46, 47, 49, 50] K L r K9 L9 r9) ∧ K1 th = 7 ∧ zC D cy base K1 L1 (c, r1, o) s.heap H locs := ⟨_, _, _, fun _ _ _ h => hacc _ _ _ ⟨q, hq, h⟩, hk_th, hC⟩
  refine lv_aload_n hx hb dX7_init_108 rfl (lv_at hl 0 rfl) ?_
  refine lv_sipush (v := 200) hx hb dX7_init_109 (by decide) ?_
  refine z_newai (Zn := fun q => (c, znw r12 q, o)) (lab := 114) (N' := 200) hx hb w3 hK hG.1 hC (by decide) (by decide) (by decide) (Nat.le_of_ble_eq_true rfl) (Nat.le_of_ble_eq_true rfl) (fun q => by rw [zc_114]; rw [zi_znq]) (fun q => zOff.mnw) dX7_init_112 (fun q H hq hC => ?_)
  have hk_th := zup_old (k := 114) hq hk_th (by decide)
  refine zp_7_14 (x := some q) (r1 := zur (znw r12 q) 14 th 0 (some q)) hx hb hts hi7 hown hK hC hk_th w18 hin2 rfl rfl dX7_init_114 (fun H locs hC => ?_)
  obtain ⟨K13, L13, r13, hacc, hk_th, hC⟩ : ∃ (K1 : Nat → Nat) (L1 : List Nat) (r1 : zS), (∀ K9 L9 r9, g_mk th [15, 16, 17, 18, 19, 20, 21, 22, 23, 24, 25, 26, 27, 28, 29, 30, 31, 32, 33, 34, 45, 46, 47, 49, 50] K1 L1 r1 K9 L9 r9 → g_mk th [1, 2, 3, 4, 5, 6, 8, 9, 10, 11, 12, 13, 14, 15, 16, 17, 18, 19, 20, 21, 22, 23, 24, 25, 26, 27, 28, 29, 30, 31, 32, 33, 34, 45, 46, 47, 49, 50] K L r K9 L9 r9) ∧ K1 th = 7 ∧ zC D cy base K1 L1 (c, r1, o) s.heap H locs := ⟨_, _, _, fun _ _ _ h => hacc _ _ _ ⟨q, hq, h⟩, hk_th, hC⟩
  refine lv_aload_n hx hb dX7_init_117 rfl (lv_at hl 0 rfl) ?_
  refine lv_sipush (v := 200) hx hb dX7_init_118 (by decide) ?_
  refine z_newai (Zn := fun q => (c, znw r13 q, o)) (lab := 115) (N' := 200) hx hb w3 hK hG.1 hC (by decide) (by decide) (by decide) (Nat.le_of_ble_eq_true rfl) (Nat.le_of_ble_eq_true rfl) (fun q => by rw [zc_115]; rw [zi_znq]) (fun q => zOff.mnw) dX7_init_121 (fun q H hq hC => ?_)
  have hk_th := zup_old (k := 115) hq hk_th (by decide)
  refine zp_7_15 (x := some q) (r1 := zur (znw r13 q) 15 th 0 (some q)) hx hb hts hi7 hown hK hC hk_th w19 hin2 rfl rfl dX7_init_123 (fun H locs hC => ?_)
  obtain ⟨K14, L14, r14, hacc, hk_th, hC⟩ : ∃ (K1 : Nat → Nat) (L1 : List Nat) (r1 : zS), (∀ K9 L9 r9, g_mk th [16, 17, 18, 19, 20, 21, 22, 23, 24, 25, 26, 27, 28, 29, 30, 31, 32, 33, 34, 45, 46, 47, 49, 50] K1 L1 r1 K9 L9 r9 → g_mk th [1, 2, 3, 4, 5, 6, 8, 9, 10, 11, 12, 13, 14, 15, 16, 17, 18, 19, 20, 21, 22, 23, 24, 25, 26, 27, 28, 29, 30, 31, 32, 33, 34, 45, 46, 47, 49, 50] K L r K9 L9 r9) ∧ K1 th = 7 ∧ zC D cy base K1 L1 (c, r1, o) s.heap H locs := ⟨_, _, _, fun _ _ _ h => hacc _ _ _ ⟨q, hq, h⟩, hk_th, hC⟩
  refine lv_aload_n hx hb dX7_init_126 rfl (lv_at hl 0 rfl) ?_
  refine lv_sipush (v := 2400) hx hb dX7_init_127 (by decide) ?_
  refine z_newai (Zn := fun q => (c, znw r14 q, o)) (lab := 116) (N' := 2400) hx hb w3 hK hG.1 hC (by decide) (by decide) (by decide) (Nat.le_of_ble_eq_true rfl) (Nat.le_of_ble_eq_true rfl) (fun q => by rw [zc_116]; rw [zi_znq]) (fun q => zOff.mnw) dX7_init_130 (fun q H hq hC => ?_)
  have hk_th := zup_old (k := 116) hq hk_th (by decide)
  refine zp_7_16 (x := some q) (r1 := zur (znw r14 q) 16 th 0 (some q)) hx hb hts hi7 hown hK hC hk_th w20 hin2 rfl rfl dX7_init_132 (fun H locs hC => ?_)
  obtain ⟨K15, L15, r15, hacc, hk_th, hC⟩ : ∃ (K1 : Nat → Nat) (L1 : List Nat) (r1 : zS), (∀ K9 L9 r9, g_mk th [17, 18, 19, 20, 21, 22, 23, 24, 25, 26, 27, 28, 29, 30, 31, 32, 33, 34, 45, 46, 47, 49, 50] K1 L1 r1 K9 L9 r9 → g_mk th [1, 2, 3, 4, 5, 6, 8, 9, 10, 11, 12, 13, 14, 15, 16, 17, 18, 19, 20, 21, 22, 23, 24, 25, 26, 27, 28, 29, 30, 31, 32, 33, 34, 45, 46, 47, 49, 50] K L r K9 L9 r9) ∧ K1 th = 7 ∧ zC D cy base K1 L1 (c, r1, o) s.heap H locs := ⟨_, _, _, fun _ _ _ h => hacc _ _ _ ⟨q, hq, h⟩, hk_th, hC⟩
  refine lv_aload_n hx hb dX7_init_135 rfl (lv_at hl 0 rfl) ?_
  refine lv_sipush (v := 2400) hx hb dX7_init_136 (by decide) ?_
  refine z_newai (Zn := fun q => (c, znw r15 q, o)) (lab := 117) (N' := 2400) hx hb w3 hK hG.1 hC (by decide) (by decide) (by decide) (Nat.le_of_ble_eq_true rfl) (Nat.le_of_ble_eq_true rfl) (fun q => by rw [zc_117]; rw [zi_znq]) (fun q => zOff.mnw) dX7_init_139 (fun q H hq hC => ?_)
  have hk_th := zup_old (k := 117) hq hk_th (by decide)
  refine zp_7_17 (x := some q) (r1 := zur (znw r15 q) 17 th 0 (some q)) hx hb hts hi7 hown hK hC hk_th w21 hin2 rfl rfl dX7_init_141 (fun H locs hC => ?_)
  obtain ⟨K16, L16, r16, hacc, hk_th, hC⟩ : ∃ (K1 : Nat → Nat) (L1 : List Nat) (r1 : zS), (∀ K9 L9 r9, g_mk th [18, 19, 20, 21, 22, 23, 24, 25, 26, 27, 28, 29, 30, 31, 32, 33, 34, 45, 46, 47, 49, 50] K1 L1 r1 K9 L9 r9 → g_mk th [1, 2, 3, 4, 5, 6, 8, 9, 10, 11, 12, 13, 14, 15, 16, 17, 18, 19, 20, 21, 22, 23, 24, 25, 26, 27, 28, 29, 30, 31, 32, 33, 34, 45, 46, 47, 49, 50] K L r K9 L9 r9) ∧ K1 th = 7 ∧ zC D cy base K1 L1 (c, r1, o) s.heap H locs := ⟨_, _, _, fun _ _ _ h => hacc _ _ _ ⟨q, hq, h⟩, hk_th, hC⟩
  refine lv_aload_n hx hb dX7_init_144 rfl (lv_at hl 0 rfl) ?_
  refine lv_sipush (v := 200) hx hb dX7_init_145 (by decide) ?_
  refine z_newai (Zn := fun q => (c, znw r16 q, o)) (lab := 118) (N' := 200) hx hb w3 hK hG.1 hC (by decide) (by decide) (by decide) (Nat.le_of_ble_eq_true rfl) (Nat.le_of_ble_eq_true rfl) (fun q => by rw [zc_118]; rw [zi_znq]) (fun q => zOff.mnw) dX7_init_148 (fun q H hq hC => ?_)
  have hk_th := zup_old (k := 118) hq hk_th (by decide)
  refine zp_7_18 (x := some q) (r1 := zur (znw r16 q) 18 th 0 (some q)) hx hb hts hi7 hown hK hC hk_th w22 hin2 rfl rfl dX7_init_150 (fun H locs hC => ?_)
  obtain ⟨K17, L17, r17, hacc, hk_th, hC⟩ : ∃ (K1 : Nat → Nat) (L1 : List Nat) (r1 : zS), (∀ K9 L9 r9, g_mk th [19, 20, 21, 22, 23, 24, 25, 26, 27, 28, 29, 30, 31, 32, 33, 34, 45, 46, 47, 49, 50] K1 L1 r1 K9 L9 r9 → g_mk th [1, 2, 3, 4, 5, 6, 8, 9, 10, 11, 12, 13, 14, 15, 16, 17, 18, 19, 20, 21, 22, 23, 24, 25, 26, 27, 28, 29, 30, 31, 32, 33, 34, 45, 46, 47, 49, 50] K L r K9 L9 r9) ∧ K1 th = 7 ∧ zC D cy base K1 L1 (c, r1, o) s.heap H locs := ⟨_, _, _, fun _ _ _ h => hacc _ _ _ ⟨q, hq, h⟩, hk_th, hC⟩
  refine lv_aload_n hx hb dX7_init_153 rfl (lv_at hl 0 rfl) ?_
  refine lv_sipush (v := 200) hx hb dX7_init_154 (by decide) ?_
  refine z_newaz (Zn := fun q => (c, znw r17 q, o)) (lab := 119) (N' := 200) hx hb w9 hK hG.1 hC (by decide) (by decide) (by decide) (Nat.le_of_ble_eq_true rfl) (Nat.le_of_ble_eq_true rfl) (fun q => by rw [zc_119]; rw [zi_znq]) (fun q => zOff.mnw) dX7_init_157 (fun q H hq hC => ?_)
  have hk_th := zup_old (k := 119) hq hk_th (by decide)
  refine zp_7_19 (x := some q) (r1 := zur (znw r17 q) 19 th 0 (some q)) hx hb hts hi7 hown hK hC hk_th w23 hin2 rfl rfl dX7_init_159 (fun H locs hC => ?_)
  obtain ⟨K18, L18, r18, hacc, hk_th, hC⟩ : ∃ (K1 : Nat → Nat) (L1 : List Nat) (r1 : zS), (∀ K9 L9 r9, g_mk th [20, 21, 22, 23, 24, 25, 26, 27, 28, 29, 30, 31, 32, 33, 34, 45, 46, 47, 49, 50] K1 L1 r1 K9 L9 r9 → g_mk th [1, 2, 3, 4, 5, 6, 8, 9, 10, 11, 12, 13, 14, 15, 16, 17, 18, 19, 20, 21, 22, 23, 24, 25, 26, 27, 28, 29, 30, 31, 32, 33, 34, 45, 46, 47, 49, 50] K L r K9 L9 r9) ∧ K1 th = 7 ∧ zC D cy base K1 L1 (c, r1, o) s.heap H locs := ⟨_, _, _, fun _ _ _ h => hacc _ _ _ ⟨q, hq, h⟩, hk_th, hC⟩
  refine lv_aload_n hx hb dX7_init_162 rfl (lv_at hl 0 rfl) ?_
  refine lv_sipush (v := 200) hx hb dX7_init_163 (by decide) ?_
  refine z_newaz (Zn := fun q => (c, znw r18 q, o)) (lab := 120) (N' := 200) hx hb w9 hK hG.1 hC (by decide) (by decide) (by decide) (Nat.le_of_ble_eq_true rfl) (Nat.le_of_ble_eq_true rfl) (fun q => by rw [zc_120]; rw [zi_znq]) (fun q => zOff.mnw) dX7_init_166 (fun q H hq hC => ?_)
  have hk_th := zup_old (k := 120) hq hk_th (by decide)
  refine zp_7_20 (x := some q) (r1 := zur (znw r18 q) 20 th 0 (some q)) hx hb hts hi7 hown hK hC hk_th w24 hin2 rfl rfl dX7_init_168 (fun H locs hC => ?_)
  obtain ⟨K19, L19, r19, hacc, hk_th, hC⟩ : ∃ (K1 : Nat → Nat) (L1 : List Nat) (r1 : zS), (∀ K9 L9 r9, g_mk th [21, 22, 23, 24, 25, 26, 27, 28, 29, 30, 31, 32, 33, 34, 45, 46, 47, 49, 50] K1 L1 r1 K9 L9 r9 → g_mk th [1, 2, 3, 4, 5, 6, 8, 9, 10, 11, 12, 13, 14, 15, 16, 17, 18, 19, 20, 21, 22, 23, 24, 25, 26, 27, 28, 29, 30, 31, 32, 33, 34, 45, 46, 47, 49, 50] K L r K9 L9 r9) ∧ K1 th = 7 ∧ zC D cy base K1 L1 (c, r1, o) s.heap H locs := ⟨_, _, _, fun _ _ _ h => hacc _ _ _ ⟨q, hq, h⟩, hk_th, hC⟩
  refine lv_aload_n hx hb dX7_init_171 rfl (lv_at hl 0 rfl) ?_
  refine lv_sipush (v := 200) hx hb dX7_init_172 (by decide) ?_
  refine z_newaz (Zn := fun q => (c, znw r19 q, o)) (lab := 121) (N' := 200) hx hb w9 hK hG.1 hC (by decide) (by decide) (by decide) (Nat.le_of_ble_eq_true rfl) (Nat.le_of_ble_eq_true rfl) (fun q => by rw [zc_121]; rw [zi_znq]) (fun q => zOff.mnw) dX7_init_175 (fun q H hq hC => ?_)
  have hk_th := zup_old (k := 121) hq hk_th (by decide)
  refine zp_7_21 (x := some q) (r1 := zur (znw r19 q) 21 th 0 (some q)) hx hb hts hi7 hown hK hC hk_th w25 hin2 rfl rfl dX7_init_177 (fun H locs hC => ?_)
  obtain ⟨K20, L20, r20, hacc, hk_th, hC⟩ : ∃ (K1 : Nat → Nat) (L1 : List Nat) (r1 : zS), (∀ K9 L9 r9, g_mk th [22, 23, 24, 25, 26, 27, 28, 29, 30, 31, 32, 33, 34, 45, 46, 47, 49, 50] K1 L1 r1 K9 L9 r9 → g_mk th [1, 2, 3, 4, 5, 6, 8, 9, 10, 11, 12, 13, 14, 15, 16, 17, 18, 19, 20, 21, 22, 23, 24, 25, 26, 27, 28, 29, 30, 31, 32, 33, 34, 45, 46, 47, 49, 50] K L r K9 L9 r9) ∧ K1 th = 7 ∧ zC D cy base K1 L1 (c, r1, o) s.heap H locs := ⟨_, _, _, fun _ _ _ h => hacc _ _ _ ⟨q, hq, h⟩, hk_th, hC⟩
  refine lv_aload_n hx hb dX7_init_180 rfl (lv_at hl 0 rfl) ?_
  refine lv_sipush (v := 200) hx hb dX7_init_181 (by decide) ?_
  refine z_newaz (Zn := fun q => (c, znw r20 q, o)) (lab := 122) (N' := 200) hx hb w9 hK hG.1 hC (by decide) (by decide) (by decide) (Nat.le_of_ble_eq_true rfl) (Nat.le_of_ble_eq_true rfl) (fun q => by rw [zc_122]; rw [zi_znq]) (fun q => zOff.mnw) dX7_init_184 (fun q H hq hC => ?_)
  have hk_th := zup_old (k := 122) hq hk_th (by decide)
  refine zp_7_22 (x := some q) (r1 := zur (znw r20 q) 22 th 0 (some q)) hx hb hts hi7 hown hK hC hk_th w26 hin2 rfl rfl dX7_init_186 (fun H locs hC => ?_)
  obtain ⟨K21, L21, r21, hacc, hk_th, hC⟩ : ∃ (K1 : Nat → Nat) (L1 : List Nat) (r1 : zS), (∀ K9 L9 r9, g_mk th [23, 24, 25, 26, 27, 28, 29, 30, 31, 32, 33, 34, 45, 46, 47, 49, 50] K1 L1 r1 K9 L9 r9 → g_mk th [1, 2, 3, 4, 5, 6, 8, 9, 10, 11, 12, 13, 14, 15, 16, 17, 18, 19, 20, 21, 22, 23, 24, 25, 26, 27, 28, 29, 30, 31, 32, 33, 34, 45, 46, 47, 49, 50] K L r K9 L9 r9) ∧ K1 th = 7 ∧ zC D cy base K1 L1 (c, r1, o) s.heap H locs := ⟨_, _, _, fun _ _ _ h => hacc _ _ _ ⟨q, hq, h⟩, hk_th, hC⟩
  refine lv_aload_n hx hb dX7_init_189 rfl (lv_at hl 0 rfl) ?_
  refine lv_sipush (v := 200) hx hb dX7_init_190 (by decide) ?_
  refine z_newaz (Zn := fun q => (c, znw r21 q, o)) (lab := 123) (N' := 200) hx hb w9 hK hG.1 hC (by decide) (by decide) (by decide) (Nat.le_of_ble_eq_true rfl) (Nat.le_of_ble_eq_true rfl) (fun q => by rw [zc_123]; rw [zi_znq]) (fun q => zOff.mnw) dX7_init_193 (fun q H hq hC => ?_)
  have hk_th := zup_old (k := 123) hq hk_th (by decide)
  refine zp_7_23 (x := some q) (r1 := zur (znw r21 q) 23 th 0 (some q)) hx hb hts hi7 hown hK hC hk_th w27 hin2 rfl rfl dX7_init_195 (fun H locs hC => ?_)
  obtain ⟨K22, L22, r22, hacc, hk_th, hC⟩ : ∃ (K1 : Nat → Nat) (L1 : List Nat) (r1 : zS), (∀ K9 L9 r9, g_mk th [24, 25, 26, 27, 28, 29, 30, 31, 32, 33, 34, 45, 46, 47, 49, 50] K1 L1 r1 K9 L9 r9 → g_mk th [1, 2, 3, 4, 5, 6, 8, 9, 10, 11, 12, 13, 14, 15, 16, 17, 18, 19, 20, 21, 22, 23, 24, 25, 26, 27, 28, 29, 30, 31, 32, 33, 34, 45, 46, 47, 49, 50] K L r K9 L9 r9) ∧ K1 th = 7 ∧ zC D cy base K1 L1 (c, r1, o) s.heap H locs := ⟨_, _, _, fun _ _ _ h => hacc _ _ _ ⟨q, hq, h⟩, hk_th, hC⟩
  refine lv_aload_n hx hb dX7_init_198 rfl (lv_at hl 0 rfl) ?_
  refine lv_sipush (v := 200) hx hb dX7_init_199 (by decide) ?_
  refine z_newaz (Zn := fun q => (c, znw r22 q, o)) (lab := 124) (N' := 200) hx hb w9 hK hG.1 hC (by decide) (by decide) (by decide) (Nat.le_of_ble_eq_true rfl) (Nat.le_of_ble_eq_true rfl) (fun q => by rw [zc_124]; rw [zi_znq]) (fun q => zOff.mnw) dX7_init_202 (fun q H hq hC => ?_)
  have hk_th := zup_old (k := 124) hq hk_th (by decide)
  refine zp_7_24 (x := some q) (r1 := zur (znw r22 q) 24 th 0 (some q)) hx hb hts hi7 hown hK hC hk_th w28 hin2 rfl rfl dX7_init_204 (fun H locs hC => ?_)
  obtain ⟨K23, L23, r23, hacc, hk_th, hC⟩ : ∃ (K1 : Nat → Nat) (L1 : List Nat) (r1 : zS), (∀ K9 L9 r9, g_mk th [25, 26, 27, 28, 29, 30, 31, 32, 33, 34, 45, 46, 47, 49, 50] K1 L1 r1 K9 L9 r9 → g_mk th [1, 2, 3, 4, 5, 6, 8, 9, 10, 11, 12, 13, 14, 15, 16, 17, 18, 19, 20, 21, 22, 23, 24, 25, 26, 27, 28, 29, 30, 31, 32, 33, 34, 45, 46, 47, 49, 50] K L r K9 L9 r9) ∧ K1 th = 7 ∧ zC D cy base K1 L1 (c, r1, o) s.heap H locs := ⟨_, _, _, fun _ _ _ h => hacc _ _ _ ⟨q, hq, h⟩, hk_th, hC⟩
  refine lv_aload_n hx hb dX7_init_207 rfl (lv_at hl 0 rfl) ?_
  refine lv_sipush (v := 200) hx hb dX7_init_208 (by decide) ?_
  refine z_newaz (Zn := fun q => (c, znw r23 q, o)) (lab := 125) (N' := 200) hx hb w9 hK hG.1 hC (by decide) (by decide) (by decide) (Nat.le_of_ble_eq_true rfl) (Nat.le_of_ble_eq_true rfl) (fun q => by rw [zc_125]; rw [zi_znq]) (fun q => zOff.mnw) dX7_init_211 (fun q H hq hC => ?_)
  have hk_th := zup_old (k := 125) hq hk_th (by decide)
  refine zp_7_25 (x := some q) (r1 := zur (znw r23 q) 25 th 0 (some q)) hx hb hts hi7 hown hK hC hk_th w29 hin2 rfl rfl dX7_init_213 (fun H locs hC => ?_)
  obtain ⟨K24, L24, r24, hacc, hk_th, hC⟩ : ∃ (K1 : Nat → Nat) (L1 : List Nat) (r1 : zS), (∀ K9 L9 r9, g_mk th [26, 27, 28, 29, 30, 31, 32, 33, 34, 45, 46, 47, 49, 50] K1 L1 r1 K9 L9 r9 → g_mk th [1, 2, 3, 4, 5, 6, 8, 9, 10, 11, 12, 13, 14, 15, 16, 17, 18, 19, 20, 21, 22, 23, 24, 25, 26, 27, 28, 29, 30, 31, 32, 33, 34, 45, 46, 47, 49, 50] K L r K9 L9 r9) ∧ K1 th = 7 ∧ zC D cy base K1 L1 (c, r1, o) s.heap H locs := ⟨_, _, _, fun _ _ _ h => hacc _ _ _ ⟨q, hq, h⟩, hk_th, hC⟩
  refine lv_aload_n hx hb dX7_init_216 rfl (lv_at hl 0 rfl) ?_
  refine lv_sipush (v := 200) hx hb dX7_init_217 (by decide) ?_
  refine z_newaz (Zn := fun q => (c, znw r24 q, o)) (lab := 126) (N' := 200) hx hb w9 hK hG.1 hC (by decide) (by decide) (by decide) (Nat.le_of_ble_eq_true rfl) (Nat.le_of_ble_eq_true rfl) (fun q => by rw [zc_126]; rw [zi_znq]) (fun q => zOff.mnw) dX7_init_220 (fun q H hq hC => ?_)
  have hk_th := zup_old (k := 126) hq hk_th (by decide)
  refine zp_7_26 (x := some q) (r1 := zur (znw r24 q) 26 th 0 (some q)) hx hb hts hi7 hown hK hC hk_th w30 hin2 rfl rfl dX7_init_222 (fun H locs hC => ?_)
  obtain ⟨K25, L25, r25, hacc, hk_th, hC⟩ : ∃ (K1 : Nat → Nat) (L1 : List Nat) (r1 : zS), (∀ K9 L9 r9, g_mk th [27, 28, 29, 30, 31, 32, 33, 34, 45, 46, 47, 49, 50] K1 L1 r1 K9 L9 r9 → g_mk th [1, 2, 3, 4, 5, 6, 8, 9, 10, 11, 12, 13, 14, 15, 16, 17, 18, 19, 20, 21, 22, 23, 24, 25, 26, 27, 28, 29, 30, 31, 32, 33, 34, 45, 46, 47, 49, 50] K L r K9 L9 r9) ∧ K1 th = 7 ∧ zC D cy base K1 L1 (c, r1, o) s.heap H locs := ⟨_, _, _, fun _ _ _ h => hacc _ _ _ ⟨q, hq, h⟩, hk_th, hC⟩
  refine lv_aload_n hx hb dX7_init_225 rfl (lv_at hl 0 rfl) ?_
  refine lv_sipush (v := 200) hx hb dX7_init_226 (by decide) ?_
  refine z_newaz (Zn := fun q => (c, znw r25 q, o)) (lab := 127) (N' := 200) hx hb w9 hK hG.1 hC (by decide) (by decide) (by decide) (Nat.le_of_ble_eq_true rfl) (Nat.le_of_ble_eq_true rfl) (fun q => by rw [zc_127]; rw [zi_znq]) (fun q => zOff.mnw) dX7_init_229 (fun q H hq hC => ?_)
  have hk_th := zup_old (k := 127) hq hk_th (by decide)
  refine zp_7_27 (x := some q) (r1 := zur (znw r25 q) 27 th 0 (some q)) hx hb hts hi7 hown hK hC hk_th w31 hin2 rfl rfl dX7_init_231 (fun H locs hC => ?_)
  obtain ⟨K26, L26, r26, hacc, hk_th, hC⟩ : ∃ (K1 : Nat → Nat) (L1 : List Nat) (r1 : zS), (∀ K9 L9 r9, g_mk th [28, 29, 30, 31, 32, 33, 34, 45, 46, 47, 49, 50] K1 L1 r1 K9 L9 r9 → g_mk th [1, 2, 3, 4, 5, 6, 8, 9, 10, 11, 12, 13, 14, 15, 16, 17, 18, 19, 20, 21, 22, 23, 24, 25, 26, 27, 28, 29, 30, 31, 32, 33, 34, 45, 46, 47, 49, 50] K L r K9 L9 r9) ∧ K1 th = 7 ∧ zC D cy base K1 L1 (c, r1, o) s.heap H locs := ⟨_, _, _, fun _ _ _ h => hacc _ _ _ ⟨q, hq, h⟩, hk_th, hC⟩
  refine lv_aload_n hx hb dX7_init_234 rfl (lv_at hl 0 rfl) ?_
  refine lv_sipush (v := 200) hx hb dX7_init_235 (by decide) ?_
  refine z_newai (Zn := fun q => (c, znw r26 q, o)) (lab := 128) (N' := 200) hx hb w3 hK hG.1 hC (by decide) (by decide) (by decide) (Nat.le_of_ble_eq_true rfl) (Nat.le_of_ble_eq_true rfl) (fun q => by rw [zc_128]; rw [zi_znq]) (fun q => zOff.mnw) dX7_init_238 (fun q H hq hC => ?_)
  have hk_th := zup_old (k := 128) hq hk_th (by decide)
  refine zp_7_28 (x := some q) (r1 := zur (znw r26 q) 28 th 0 (some q)) hx hb hts hi7 hown hK hC hk_th w32 hin2 rfl rfl dX7_init_240 (fun H locs hC => ?_)
  obtain ⟨K27, L27, r27, hacc, hk_th, hC⟩ : ∃ (K1 : Nat → Nat) (L1 : List Nat) (r1 : zS), (∀ K9 L9 r9, g_mk th [29, 30, 31, 32, 33, 34, 45, 46, 47, 49, 50] K1 L1 r1 K9 L9 r9 → g_mk th [1, 2, 3, 4, 5, 6, 8, 9, 10, 11, 12, 13, 14, 15, 16, 17, 18, 19, 20, 21, 22, 23, 24, 25, 26, 27, 28, 29, 30, 31, 32, 33, 34, 45, 46, 47, 49, 50] K L r K9 L9 r9) ∧ K1 th = 7 ∧ zC D cy base K1 L1 (c, r1, o) s.heap H locs := ⟨_, _, _, fun _ _ _ h => hacc _ _ _ ⟨q, hq, h⟩, hk_th, hC⟩
  refine lv_aload_n hx hb dX7_init_243 rfl (lv_at hl 0 rfl) ?_
  refine lv_sipush (v := 200) hx hb dX7_init_244 (by decide) ?_
  refine z_newai (Zn := fun q => (c, znw r27 q, o)) (lab := 129) (N' := 200) hx hb w3 hK hG.1 hC (by decide) (by decide) (by decide) (Nat.le_of_ble_eq_true rfl) (Nat.le_of_ble_eq_true rfl) (fun q => by rw [zc_129]; rw [zi_znq]) (fun q => zOff.mnw) dX7_init_247 (fun q H hq hC => ?_)
  have hk_th := zup_old (k := 129) hq hk_th (by decide)
  refine zp_7_29 (x := some q) (r1 := zur (znw r27 q) 29 th 0 (some q)) hx hb hts hi7 hown hK hC hk_th w33 hin2 rfl rfl dX7_init_249 (fun H locs hC => ?_)
  obtain ⟨K28, L28, r28, hacc, hk_th, hC⟩ : ∃ (K1 : Nat → Nat) (L1 : List Nat) (r1 : zS), (∀ K9 L9 r9, g_mk th [30, 31, 32, 33, 34, 45, 46, 47, 49, 50] K1 L1 r1 K9 L9 r9 → g_mk th [1, 2, 3, 4, 5, 6, 8, 9, 10, 11, 12, 13, 14, 15, 16, 17, 18, 19, 20, 21, 22, 23, 24, 25, 26, 27, 28, 29, 30, 31, 32, 33, 34, 45, 46, 47, 49, 50] K L r K9 L9 r9) ∧ K1 th = 7 ∧ zC D cy base K1 L1 (c, r1, o) s.heap H locs := ⟨_, _, _, fun _ _ _ h => hacc _ _ _ ⟨q, hq, h⟩, hk_th, hC⟩
  refine lv_aload_n hx hb dX7_init_252 rfl (lv_at hl 0 rfl) ?_
  refine lv_sipush (v := 200) hx hb dX7_init_253 (by decide) ?_
  refine z_newai (Zn := fun q => (c, znw r28 q, o)) (lab := 130) (N' := 200) hx hb w3 hK hG.1 hC (by decide) (by decide) (by decide) (Nat.le_of_ble_eq_true rfl) (Nat.le_of_ble_eq_true rfl) (fun q => by rw [zc_130]; rw [zi_znq]) (fun q => zOff.mnw) dX7_init_256 (fun q H hq hC => ?_)
  have hk_th := zup_old (k := 130) hq hk_th (by decide)
  refine zp_7_30 (x := some q) (r1 := zur (znw r28 q) 30 th 0 (some q)) hx hb hts hi7 hown hK hC hk_th w34 hin2 rfl rfl dX7_init_258 (fun H locs hC => ?_)
  obtain ⟨K29, L29, r29, hacc, hk_th, hC⟩ : ∃ (K1 : Nat → Nat) (L1 : List Nat) (r1 : zS), (∀ K9 L9 r9, g_mk th [31, 32, 33, 34, 45, 46, 47, 49, 50] K1 L1 r1 K9 L9 r9 → g_mk th [1, 2, 3, 4, 5, 6, 8, 9, 10, 11, 12, 13, 14, 15, 16, 17, 18, 19, 20, 21, 22, 23, 24, 25, 26, 27, 28, 29, 30, 31, 32, 33, 34, 45, 46, 47, 49, 50] K L r K9 L9 r9) ∧ K1 th = 7 ∧ zC D cy base K1 L1 (c, r1, o) s.heap H locs := ⟨_, _, _, fun _ _ _ h => hacc _ _ _ ⟨q, hq, h⟩, hk_th, hC⟩
  refine lv_aload_n hx hb dX7_init_261 rfl (lv_at hl 0 rfl) ?_
  refine lv_sipush (v := 200) hx hb dX7_init_262 (by decide) ?_
  refine z_newai (Zn := fun q => (c, znw r29 q, o)) (lab := 131) (N' := 200) hx hb w3 hK hG.1 hC (by decide) (by decide) (by decide) (Nat.le_of_ble_eq_true rfl) (Nat.le_of_ble_eq_true rfl) (fun q => by rw [zc_131]; rw [zi_znq]) (fun q => zOff.mnw) dX7_init_265 (fun q H hq hC => ?_)
  have hk_th := zup_old (k := 131) hq hk_th (by decide)
  refine zp_7_31 (x := some q) (r1 := zur (znw r29 q) 31 th 0 (some q)) hx hb hts hi7 hown hK hC hk_th w35 hin2 rfl rfl dX7_init_267 (fun H locs hC => ?_)
  obtain ⟨K30, L30, r30, hacc, hk_th, hC⟩ : ∃ (K1 : Nat → Nat) (L1 : List Nat) (r1 : zS), (∀ K9 L9 r9, g_mk th [32, 33, 34, 45, 46, 47, 49, 50] K1 L1 r1 K9 L9 r9 → g_mk th [1, 2, 3, 4, 5, 6, 8, 9, 10, 11, 12, 13, 14, 15, 16, 17, 18, 19, 20, 21, 22, 23, 24, 25, 26, 27, 28, 29, 30, 31, 32, 33, 34, 45, 46, 47, 49, 50] K L r K9 L9 r9) ∧ K1 th = 7 ∧ zC D cy base K1 L1 (c, r1, o) s.heap H locs := ⟨_, _, _, fun _ _ _ h => hacc _ _ _ ⟨q, hq, h⟩, hk_th, hC⟩
  refine lv_aload_n hx hb dX7_init_270 rfl (lv_at hl 0 rfl) ?_
  refine lv_sipush (v := 200) hx hb dX7_init_271 (by decide) ?_
  refine z_newai (Zn := fun q => (c, znw r30 q, o)) (lab := 132) (N' := 200) hx hb w3 hK hG.1 hC (by decide) (by decide) (by decide) (Nat.le_of_ble_eq_true rfl) (Nat.le_of_ble_eq_true rfl) (fun q => by rw [zc_132]; rw [zi_znq]) (fun q => zOff.mnw) dX7_init_274 (fun q H hq hC => ?_)
  have hk_th := zup_old (k := 132) hq hk_th (by decide)
  refine zp_7_32 (x := some q) (r1 := zur (znw r30 q) 32 th 0 (some q)) hx hb hts hi7 hown hK hC hk_th w36 hin2 rfl rfl dX7_init_276 (fun H locs hC => ?_)
  obtain ⟨K31, L31, r31, hacc, hk_th, hC⟩ : ∃ (K1 : Nat → Nat) (L1 : List Nat) (r1 : zS), (∀ K9 L9 r9, g_mk th [33, 34, 45, 46, 47, 49, 50] K1 L1 r1 K9 L9 r9 → g_mk th [1, 2, 3, 4, 5, 6, 8, 9, 10, 11, 12, 13, 14, 15, 16, 17, 18, 19, 20, 21, 22, 23, 24, 25, 26, 27, 28, 29, 30, 31, 32, 33, 34, 45, 46, 47, 49, 50] K L r K9 L9 r9) ∧ K1 th = 7 ∧ zC D cy base K1 L1 (c, r1, o) s.heap H locs := ⟨_, _, _, fun _ _ _ h => hacc _ _ _ ⟨q, hq, h⟩, hk_th, hC⟩
  refine lv_aload_n hx hb dX7_init_279 rfl (lv_at hl 0 rfl) ?_
  refine lv_sipush (v := 200) hx hb dX7_init_280 (by decide) ?_
  refine z_newai (Zn := fun q => (c, znw r31 q, o)) (lab := 133) (N' := 200) hx hb w3 hK hG.1 hC (by decide) (by decide) (by decide) (Nat.le_of_ble_eq_true rfl) (Nat.le_of_ble_eq_true rfl) (fun q => by rw [zc_133]; rw [zi_znq]) (fun q => zOff.mnw) dX7_init_283 (fun q H hq hC => ?_)
  have hk_th := zup_old (k := 133) hq hk_th (by decide)
  refine zp_7_33 (x := some q) (r1 := zur (znw r31 q) 33 th 0 (some q)) hx hb hts hi7 hown hK hC hk_th w37 hin2 rfl rfl dX7_init_285 (fun H locs hC => ?_)
  obtain ⟨K32, L32, r32, hacc, hk_th, hC⟩ : ∃ (K1 : Nat → Nat) (L1 : List Nat) (r1 : zS), (∀ K9 L9 r9, g_mk th [34, 45, 46, 47, 49, 50] K1 L1 r1 K9 L9 r9 → g_mk th [1, 2, 3, 4, 5, 6, 8, 9, 10, 11, 12, 13, 14, 15, 16, 17, 18, 19, 20, 21, 22, 23, 24, 25, 26, 27, 28, 29, 30, 31, 32, 33, 34, 45, 46, 47, 49, 50] K L r K9 L9 r9) ∧ K1 th = 7 ∧ zC D cy base K1 L1 (c, r1, o) s.heap H locs := ⟨_, _, _, fun _ _ _ h => hacc _ _ _ ⟨q, hq, h⟩, hk_th, hC⟩
  refine lv_aload_n hx hb dX7_init_288 rfl (lv_at hl 0 rfl) ?_
  refine lv_sipush (v := 200) hx hb dX7_init_289 (by decide) ?_
  refine z_newal (Zn := fun q => (c, znw r32 q, o)) (lab := 134) (N' := 200) hx hb w38 hK hG.1 hC (by decide) (by decide) (by decide) (Nat.le_of_ble_eq_true rfl) (Nat.le_of_ble_eq_true rfl) (fun q => by rw [zc_134]; rw [zl_znq]) (fun q => zOff.mnw) dX7_init_292 (fun q H hq hC => ?_)
  have hk_th := zup_old (k := 134) hq hk_th (by decide)
  refine zp_7_34 (x := some q) (r1 := zur (znw r32 q) 34 th 0 (some q)) hx hb hts hi7 hown hK hC hk_th w39 hin2 rfl rfl dX7_init_294 (fun H locs hC => ?_)
  obtain ⟨K33, L33, r33, hacc, hk_th, hC⟩ : ∃ (K1 : Nat → Nat) (L1 : List Nat) (r1 : zS), (∀ K9 L9 r9, g_mk th [45, 46, 47, 49, 50] K1 L1 r1 K9 L9 r9 → g_mk th [1, 2, 3, 4, 5, 6, 8, 9, 10, 11, 12, 13, 14, 15, 16, 17, 18, 19, 20, 21, 22, 23, 24, 25, 26, 27, 28, 29, 30, 31, 32, 33, 34, 45, 46, 47, 49, 50] K L r K9 L9 r9) ∧ K1 th = 7 ∧ zC D cy base K1 L1 (c, r1, o) s.heap H locs := ⟨_, _, _, fun _ _ _ h => hacc _ _ _ ⟨q, hq, h⟩, hk_th, hC⟩
  refine lv_aload_n hx hb dX7_init_297 rfl (lv_at hl 0 rfl) ?_
  refine lv_sipush (v := 8000) hx hb dX7_init_298 (by decide) ?_
  refine z_newaz (Zn := fun q => (c, znw r33 q, o)) (lab := 145) (N' := 8000) hx hb w9 hK hG.1 hC (by decide) (by decide) (by decide) (Nat.le_of_ble_eq_true rfl) (Nat.le_of_ble_eq_true rfl) (fun q => by rw [zc_145]; rw [zi_znq]) (fun q => zOff.mnw) dX7_init_301 (fun q H hq hC => ?_)
  have hk_th := zup_old (k := 145) hq hk_th (by decide)
  refine zp_7_45 (x := some q) (r1 := zur (znw r33 q) 45 th 0 (some q)) hx hb hts hi7 hown hK hC hk_th w40 hin2 rfl rfl dX7_init_303 (fun H locs hC => ?_)
  obtain ⟨K34, L34, r34, hacc, hk_th, hC⟩ : ∃ (K1 : Nat → Nat) (L1 : List Nat) (r1 : zS), (∀ K9 L9 r9, g_mk th [46, 47, 49, 50] K1 L1 r1 K9 L9 r9 → g_mk th [1, 2, 3, 4, 5, 6, 8, 9, 10, 11, 12, 13, 14, 15, 16, 17, 18, 19, 20, 21, 22, 23, 24, 25, 26, 27, 28, 29, 30, 31, 32, 33, 34, 45, 46, 47, 49, 50] K L r K9 L9 r9) ∧ K1 th = 7 ∧ zC D cy base K1 L1 (c, r1, o) s.heap H locs := ⟨_, _, _, fun _ _ _ h => hacc _ _ _ ⟨q, hq, h⟩, hk_th, hC⟩
  refine lv_aload_n hx hb dX7_init_306 rfl (lv_at hl 0 rfl) ?_
  refine lv_sipush (v := 201) hx hb dX7_init_307 (by decide) ?_
  refine z_newai (Zn := fun q => (c, znw r34 q, o)) (lab := 146) (N' := 201) hx hb w3 hK hG.1 hC (by decide) (by decide) (by decide) (Nat.le_of_ble_eq_true rfl) (Nat.le_of_ble_eq_true rfl) (fun q => by rw [zc_146]; rw [zi_znq]) (fun q => zOff.mnw) dX7_init_310 (fun q H hq hC => ?_)
  have hk_th := zup_old (k := 146) hq hk_th (by decide)
  refine zp_7_46 (x := some q) (r1 := zur (znw r34 q) 46 th 0 (some q)) hx hb hts hi7 hown hK hC hk_th w41 hin2 rfl rfl dX7_init_312 (fun H locs hC => ?_)
  obtain ⟨K35, L35, r35, hacc, hk_th, hC⟩ : ∃ (K1 : Nat → Nat) (L1 : List Nat) (r1 : zS), (∀ K9 L9 r9, g_mk th [47, 49, 50] K1 L1 r1 K9 L9 r9 → g_mk th [1, 2, 3, 4, 5, 6, 8, 9, 10, 11, 12, 13, 14, 15, 16, 17, 18, 19, 20, 21, 22, 23, 24, 25, 26, 27, 28, 29, 30, 31, 32, 33, 34, 45, 46, 47, 49, 50] K L r K9 L9 r9) ∧ K1 th = 7 ∧ zC D cy base K1 L1 (c, r1, o) s.heap H locs := ⟨_, _, _, fun _ _ _ h => hacc _ _ _ ⟨q, hq, h⟩, hk_th, hC⟩
  refine lv_aload_n hx hb dX7_init_315 rfl (lv_at hl 0 rfl) ?_
  refine lv_sipush (v := 200) hx hb dX7_init_316 (by decide) ?_
  refine z_newai (Zn := fun q => (c, znw r35 q, o)) (lab := 147) (N' := 200) hx hb w3 hK hG.1 hC (by decide) (by decide) (by decide) (Nat.le_of_ble_eq_true rfl) (Nat.le_of_ble_eq_true rfl) (fun q => by rw [zc_147]; rw [zi_znq]) (fun q => zOff.mnw) dX7_init_319 (fun q H hq hC => ?_)
  have hk_th := zup_old (k := 147) hq hk_th (by decide)
  refine zp_7_47 (x := some q) (r1 := zur (znw r35 q) 47 th 0 (some q)) hx hb hts hi7 hown hK hC hk_th w42 hin2 rfl rfl dX7_init_321 (fun H locs hC => ?_)
  obtain ⟨K36, L36, r36, hacc, hk_th, hC⟩ : ∃ (K1 : Nat → Nat) (L1 : List Nat) (r1 : zS), (∀ K9 L9 r9, g_mk th [49, 50] K1 L1 r1 K9 L9 r9 → g_mk th [1, 2, 3, 4, 5, 6, 8, 9, 10, 11, 12, 13, 14, 15, 16, 17, 18, 19, 20, 21, 22, 23, 24, 25, 26, 27, 28, 29, 30, 31, 32, 33, 34, 45, 46, 47, 49, 50] K L r K9 L9 r9) ∧ K1 th = 7 ∧ zC D cy base K1 L1 (c, r1, o) s.heap H locs := ⟨_, _, _, fun _ _ _ h => hacc _ _ _ ⟨q, hq, h⟩, hk_th, hC⟩
  refine lv_aload_n hx hb dX7_init_324 rfl (lv_at hl 0 rfl) ?_
  refine lv_sipush (v := 200) hx hb dX7_init_325 (by decide) ?_
  refine z_newai (Zn := fun q => (c, znw r36 q, o)) (lab := 149) (N' := 200) hx hb w3 hK hG.1 hC (by decide) (by decide) (by decide) (Nat.le_of_ble_eq_true rfl) (Nat.le_of_ble_eq_true rfl) (fun q => by rw [zc_149]; rw [zi_znq]) (fun q => zOff.mnw) dX7_init_328 (fun q H hq hC => ?_)
  have hk_th := zup_old (k := 149) hq hk_th (by decide)
  refine zp_7_49 (x := some q) (r1 := zur (znw r36 q) 49 th 0 (some q)) hx hb hts hi7 hown hK hC hk_th w43 hin2 rfl rfl dX7_init_330 (fun H locs hC => ?_)
  obtain ⟨K37, L37, r37, hacc, hk_th, hC⟩ : ∃ (K1 : Nat → Nat) (L1 : List Nat) (r1 : zS), (∀ K9 L9 r9, g_mk th [50] K1 L1 r1 K9 L9 r9 → g_mk th [1, 2, 3, 4, 5, 6, 8, 9, 10, 11, 12, 13, 14, 15, 16, 17, 18, 19, 20, 21, 22, 23, 24, 25, 26, 27, 28, 29, 30, 31, 32, 33, 34, 45, 46, 47, 49, 50] K L r K9 L9 r9) ∧ K1 th = 7 ∧ zC D cy base K1 L1 (c, r1, o) s.heap H locs := ⟨_, _, _, fun _ _ _ h => hacc _ _ _ ⟨q, hq, h⟩, hk_th, hC⟩
  refine lv_aload_n hx hb dX7_init_333 rfl (lv_at hl 0 rfl) ?_
  refine lv_sipush (v := 200) hx hb dX7_init_334 (by decide) ?_
  refine z_newaz (Zn := fun q => (c, znw r37 q, o)) (lab := 150) (N' := 200) hx hb w9 hK hG.1 hC (by decide) (by decide) (by decide) (Nat.le_of_ble_eq_true rfl) (Nat.le_of_ble_eq_true rfl) (fun q => by rw [zc_150]; rw [zi_znq]) (fun q => zOff.mnw) dX7_init_337 (fun q H hq hC => ?_)
  have hk_th := zup_old (k := 150) hq hk_th (by decide)
  refine zp_7_50 (x := some q) (r1 := zur (znw r37 q) 50 th 0 (some q)) hx hb hts hi7 hown hK hC hk_th w44 hin2 rfl rfl dX7_init_339 (fun H locs hC => ?_)
  obtain ⟨K38, L38, r38, hacc, hk_th, hC⟩ : ∃ (K1 : Nat → Nat) (L1 : List Nat) (r1 : zS), (∀ K9 L9 r9, g_mk th [] K1 L1 r1 K9 L9 r9 → g_mk th [1, 2, 3, 4, 5, 6, 8, 9, 10, 11, 12, 13, 14, 15, 16, 17, 18, 19, 20, 21, 22, 23, 24, 25, 26, 27, 28, 29, 30, 31, 32, 33, 34, 45, 46, 47, 49, 50] K L r K9 L9 r9) ∧ K1 th = 7 ∧ zC D cy base K1 L1 (c, r1, o) s.heap H locs := ⟨_, _, _, fun _ _ _ h => hacc _ _ _ ⟨q, hq, h⟩, hk_th, hC⟩
  exact z_vretB (P := fun K1 L1 c1 => g_X7_init K L r th K1 L1 c1) hx hb hr hlocks hC (hacc _ _ _ ⟨rfl, rfl, rfl⟩) dX7_init_342
theorem g_X0_init_keep {K : Nat → Nat} {L : List Nat} {c : zS} {th : Nat} {K9 : Nat → Nat} {L9 : List Nat} {c9 : zS} (h : g_X0_init K L c th K9 L9 c9) (f a : Nat) (hf : 120 ≤ f) (ha : K a < 255) : zr c9 f a 0 = zr c f a 0 := by
  obtain ⟨q1, hq1, q2, hq2, rfl, rfl, rfl⟩ := h
  have e1 : a ≠ q1 := fun e => by rw [e] at ha; omega
  have e2 : a ≠ q2 := fun e => by rw [← e, va_up_ne _ _ e1] at hq2; omega
  rw [zr_zur, if_neg (fun x => by omega), zr_znw, if_neg e2, zr_zur, if_neg (fun x => by omega), zr_znw, if_neg e1]
theorem g_X5_init_keep {K : Nat → Nat} {L : List Nat} {c : zS} {th : Nat} {K9 : Nat → Nat} {L9 : List Nat} {c9 : zS} (h : g_X5_init K L c th K9 L9 c9) (f a : Nat) (hf : 120 ≤ f) (ha : K a < 255) : zr c9 f a 0 = zr c f a 0 := by
  obtain ⟨q1, hq1, q2, hq2, rfl, rfl, rfl⟩ := h
  have e1 : a ≠ q1 := fun e => by rw [e] at ha; omega
  have e2 : a ≠ q2 := fun e => by rw [← e, va_up_ne _ _ e1] at hq2; omega
  rw [zr_zur, if_neg (fun x => by omega), zr_znw, if_neg e2, zr_zur, if_neg (fun x => by omega), zr_znw, if_neg e1]
theorem g_X2_init_keep {K : Nat → Nat} {L : List Nat} {c : zS} {th : Nat} {K9 : Nat → Nat} {L9 : List Nat} {c9 : zS} (h : g_X2_init K L c th K9 L9 c9) (f a : Nat) (hf : 120 ≤ f) (ha : K a < 255) : zr c9 f a 0 = zr c f a 0 := by
  obtain ⟨q1, hq1, rfl, rfl, rfl⟩ := h
  have e1 : a ≠ q1 := fun e => by rw [e] at ha; omega
  rw [zr_zur, if_neg (fun x => by omega), zr_znw, if_neg e1]
theorem g_X4_init_keep {K : Nat → Nat} {L : List Nat} {c : zS} {th : Nat} {p1 p2 : Int32} {t3 : Nat} {p4 p5 : Int32} {K9 : Nat → Nat} {L9 : List Nat} {c9 : zS} (h : g_X4_init K L c th p1 p2 t3 p4 p5 K9 L9 c9) (f a : Nat) (hf : 120 ≤ f) (ha : K a < 255) : zr c9 f a 0 = zr c f a 0 := by
  obtain ⟨q1, hq1, q2, hq2, K3, L3, c3, h3, q4, hq4, K5, L5, c5, h5, rfl, rfl, rfl⟩ := h
  have e1 : a ≠ q1 := fun e => by rw [e] at ha; omega
  have k1 : va_up K q1 1 a = K a := va_up_ne _ _ e1
  have e2 : a ≠ q2 := fun e => by rw [← e, k1] at hq2; omega
  have k2 : va_up (va_up K q1 1) q2 5 a = K a := (va_up_ne _ _ e2).trans k1
  have k3 : K3 a = K a := (g_X5_init_old h3 a (by rw [k2]; exact ha)).trans k2
  have e4 : a ≠ q4 := fun e => by rw [← e, k3] at hq4; omega
  have k4 : va_up K3 q4 2 a = K a := (va_up_ne _ _ e4).trans k3
  have s3 := g_X5_init_keep h3 f a hf (by rw [k2]; exact ha)
  have s5 := g_X2_init_keep h5 f a hf (by rw [k4]; exact ha)
  have n1 : ∀ n : Nat, n < 120 → ∀ b : Nat, ¬ (f = n ∧ a = b ∧ 0 = 0) := fun n hn b x => by omega
  simp only [zr_zui, zr_zur]
  rw [s5, zr_znw, if_neg e4, zr_zur, if_neg (n1 84 (by decide) _), s3, zr_znw, if_neg e2, zr_zur, if_neg (n1 83 (by decide) _), zr_znw, if_neg e1]
  rw [if_neg (fun x => by have := x.1; omega), if_neg (fun x => by have := x.1; omega)]
def g_X6_rows (aR : Nat) : Nat → (Nat → Nat) → List Nat → zS → (Nat → Nat) → List Nat → zS → Prop
  | 0, K, L, c, K9, L9, c9 => K9 = K ∧ L9 = L ∧ c9 = c
  | n + 1, K, L, c, K9, L9, c9 => ∃ (K1 : Nat → Nat) (L1 : List Nat) (c1 : zS), g_X6_rows aR n K L c K1 L1 c1 ∧ ∃ q : Nat, 255 ≤ K1 q ∧ ∃ c2 : zS, g_X0_init (va_up K1 q 0) (L1 ++ [q]) (znw c1 q) q K9 L9 c2 ∧ c9 = zur c2 143 aR n (some q)
theorem g_X6_rows_old {aR : Nat} : ∀ {n : Nat} {K : Nat → Nat} {L : List Nat} {c : zS} {K9 : Nat → Nat} {L9 : List Nat} {c9 : zS}, g_X6_rows aR n K L c K9 L9 c9 → ∀ a, K a < 255 → K9 a = K a
  | 0, _, _, _, _, _, _, h, a, _ => by rw [h.1]
  | n + 1, K, L, c, K9, L9, c9, h, a, ha => by
    obtain ⟨K1, L1, c1, h1, q, hq, c2, h2, -⟩ := h
    have e1 := g_X6_rows_old h1 a ha
    have e2 := zup_old (k := 0) hq e1 ha
    exact (g_X0_init_old h2 a (by rw [e2]; exact ha)).trans e2
def g_X6_init (K : Nat → Nat) (L : List Nat) (c : zS) (th : Nat) (K9 : Nat → Nat) (L9 : List Nat) (c9 : zS) : Prop :=
  ∃ q1 : Nat, 255 ≤ K q1 ∧ ∃ q2 : Nat, 255 ≤ (va_up K q1 11) q2 ∧ ∃ q3 : Nat, 255 ≤ (va_up (va_up K q1 11) q2 12) q3 ∧ ∃ q4 : Nat, 255 ≤ (va_up (va_up (va_up K q1 11) q2 12) q3 13) q4 ∧ ∃ q5 : Nat, 255 ≤ (va_up (va_up (va_up (va_up K q1 11) q2 12) q3 13) q4 14) q5 ∧ ∃ (K8 : Nat → Nat) (L8 : List Nat) (c8 : zS), g_X6_rows q1 40 (va_up (va_up (va_up (va_up (va_up K q1 11) q2 12) q3 13) q4 14) q5 15) (((((L ++ [q1]) ++ [q2]) ++ [q3]) ++ [q4]) ++ [q5]) (zur (znw (zur (znw (zur (znw (zur (znw (zur (znw c q1) 120 th 0 (some q1)) q2) 121 th 0 (some q2)) q3) 122 th 0 (some q3)) q4) 123 th 0 (some q4)) q5) 124 th 0 (some q5)) K8 L8 c8 ∧ K9 = K8 ∧ L9 = L8 ∧ c9 = c8
theorem g_X6_init_old {K : Nat → Nat} {L : List Nat} {c : zS} {th : Nat} {K9 : Nat → Nat} {L9 : List Nat} {c9 : zS} (h : g_X6_init K L c th K9 L9 c9) : ∀ a, K a < 255 → K9 a = K a := by
  obtain ⟨q1, hq_q1, q2, hq_q2, q3, hq_q3, q4, hq_q4, q5, hq_q5, K8, L8, c8, h8, rfl, rfl, rfl⟩ := h
  intro a ha
  have h0 : K a < 255 := ha
  have e0 : K a = K a := rfl
  have e1 := zup_old (k := 11) hq_q1 e0 ha
  have e2 := zup_old (k := 12) hq_q2 e1 ha
  have e3 := zup_old (k := 13) hq_q3 e2 ha
  have e4 := zup_old (k := 14) hq_q4 e3 ha
  have e5 := zup_old (k := 15) hq_q5 e4 ha
  have e6 := (g_X6_rows_old h8 a (by rw [e5]; exact ha)).trans e5
  exact e6
set_option maxRecDepth 100000 in
set_option maxHeartbeats 4000000 in
theorem c_X6_init {l : Launch} {D : va_G} {cy : Nat → ClassId} {base : Nat} {st : Nat → Nat} {K : Nat → Nat} {L : List Nat} {c r : zS} {o : Int64} (th : Nat) (hk_th : K th = 6) : Met l yX6_init wsX6_init ({ frames := 2, cells := 125, slots := 16780, locals := 44 }) (va_Pc [.ref th] (zGW zts0 zns0 D cy base st K L (c, r, o))) (va_Qv (fun (u : (Nat → Nat) × List Nat × zS) => g_X6_init K L c th u.1 u.2.1 u.2.2) (fun u => zB D cy base u.1 u.2.1 (u.2.2, r, o)) (zA base)) 125 16780 (zA base) := by
  refine Met.ofW (cc := cX6_init) (maxL := 2) (ret := none) (by decide) rfl ?_
  intro p e s m args below meth cd s₁ B hml hv
  obtain ⟨rfl, hG⟩ := hv
  have hx := B.exec
  have hb := B.bytes
  have hr := B.returns
  have hts := atoms_spec (ws := wsX6_init) B.pre
  have hown : s.vm.findClass RX6 = some m.cls := findClass_of_methodNamed B.named
  have hlocks := B.notSynchronized
  have hin2 : meth.name = "<init>" := (name_of_methodNamed B.named B.method).1
  have hC := hG.enter
  have hK := hG.2.2.2.1
  have hi0 : ∀ w ∈ wsX00, w ∈ wsX6_init := by decide +kernel
  have hi6 : ∀ w ∈ wsX60, w ∈ wsX6_init := by decide +kernel
  have w0 := hts (.methodLink RX6 3 objectInit) (by decide +kernel)
  have w1 := hts (.instanceMethod objectInit) (by decide +kernel)
  have w2 := hts (.code objectInit ⟨#[0xb1]⟩ 1 none) (by decide +kernel)
  have w3 := hts (.classLink RX6 9 RX0) (by decide +kernel)
  have w4 := hts (.fieldLink RX6 11 "MarketSquare" "rows" "[LMarketSquare$Row;") (by decide +kernel)
  have w5 := hts (.classLink RX6 15 RX3) (by decide +kernel)
  have w6 := hts (.fieldLink RX6 17 "MarketSquare" "trades" "[LMarketSquare$Trade;") (by decide +kernel)
  have w7 := hts (.classLink RX6 21 RX4) (by decide +kernel)
  have w8 := hts (.fieldLink RX6 23 "MarketSquare" "traders" "[LMarketSquare$Trader;") (by decide +kernel)
  have w9 := hts (.fieldLink RX6 27 "MarketSquare" "ranked" "[LMarketSquare$Trader;") (by decide +kernel)
  have w10 := hts (.fieldLink RX6 30 "MarketSquare" "line" "[LMarketSquare$Trader;") (by decide +kernel)
  have w11 := hts (.instantiable RX0 3) (by decide +kernel)
  have w12 := hts (.initialized RX0) (by decide +kernel)
  have w13 := hts (.instanceMethod yX0_init) (by decide +kernel)
  have hl := lv_entry ([.ref th]) (n := 2) (Nat.le_of_ble_eq_true rfl)
  rw [lg_entry_eq]
  generalize (lg_sl ([.ref th]) ++ List.replicate (2 - (lg_sl ([.ref th])).length) Slot.unset).toArray = ls at hl ⊢
  have hl : lv_has ls 2 [(0, .ref th)] := hl
  refine lv_aload_n hx hb dX6_init_0 rfl (lv_at hl 0 rfl) ?_
  refine z_obj hx hb hown w0 w1 w2 (by rw [hml]; exact hl.1) dX6_init_1 (Nat.le_of_ble_eq_true rfl) (Nat.le_of_ble_eq_true rfl) ?_
  refine lv_aload_n hx hb dX6_init_4 rfl (lv_at hl 0 rfl) ?_
  refine lv_bipush (v := 40) hx hb dX6_init_5 (by decide) ?_
  refine z_newq (Zn := fun q => (znw c q, r, o)) (lab := 11) (N' := 40) (ti := 4) (C := RX0) hx hb hown w3 (hG.2.2.2.2.2.2.2.2.2.2.2.1 _ (by decide +kernel)) hK rfl hG.1 hC (by decide) (by decide) (by decide) (Nat.le_of_ble_eq_true rfl) (Nat.le_of_ble_eq_true rfl) (fun q => by rw [zc_11]; rw [zr_znq]) (fun q => zOff.nw) dX6_init_7 (fun q1 H hq_q1 hC => ?_)
  have n_q1 : th ≠ q1 := fun e => by rw [e] at hk_th; omega
  have hk_th : (va_up K q1 11) th = 6 := zup_old hq_q1 hk_th (by decide)
  have hk_q1 : (va_up K q1 11) q1 = 11 := va_up_self _ _ _
  refine zp_6_0 (x := some q1) (c1 := (zur (znw c q1) 120 th 0 (some q1))) hx hb hts hi6 hown hK hC hk_th w4 hin2 rfl rfl dX6_init_10 (fun H locs hC => ?_)
  refine lv_aload_n hx hb dX6_init_13 rfl (lv_at hl 0 rfl) ?_
  refine lv_bipush (v := 20) hx hb dX6_init_14 (by decide) ?_
  refine z_newq (Zn := fun q => (znw (zur (znw c q1) 120 th 0 (some q1)) q, r, o)) (lab := 12) (N' := 20) (ti := 5) (C := RX3) hx hb hown w5 (hG.2.2.2.2.2.2.2.2.2.2.2.1 _ (by decide +kernel)) hK rfl hG.1 hC (by decide) (by decide) (by decide) (Nat.le_of_ble_eq_true rfl) (Nat.le_of_ble_eq_true rfl) (fun q => by rw [zc_12]; rw [zr_znq]) (fun q => zOff.nw) dX6_init_16 (fun q2 H hq_q2 hC => ?_)
  have n_q2 : th ≠ q2 := fun e => by rw [e] at hk_th; omega
  have hk_th : (va_up (va_up K q1 11) q2 12) th = 6 := zup_old hq_q2 hk_th (by decide)
  have hk_q1 : (va_up (va_up K q1 11) q2 12) q1 = 11 := zup_old hq_q2 hk_q1 (by decide)
  have hk_q2 : (va_up (va_up K q1 11) q2 12) q2 = 12 := va_up_self _ _ _
  refine zp_6_1 (x := some q2) (c1 := (zur (znw (zur (znw c q1) 120 th 0 (some q1)) q2) 121 th 0 (some q2))) hx hb hts hi6 hown hK hC hk_th w6 hin2 rfl rfl dX6_init_19 (fun H locs hC => ?_)
  refine lv_aload_n hx hb dX6_init_22 rfl (lv_at hl 0 rfl) ?_
  refine lv_sipush (v := 200) hx hb dX6_init_23 (by decide) ?_
  refine z_newq (Zn := fun q => (znw (zur (znw (zur (znw c q1) 120 th 0 (some q1)) q2) 121 th 0 (some q2)) q, r, o)) (lab := 13) (N' := 200) (ti := 6) (C := RX4) hx hb hown w7 (hG.2.2.2.2.2.2.2.2.2.2.2.1 _ (by decide +kernel)) hK rfl hG.1 hC (by decide) (by decide) (by decide) (Nat.le_of_ble_eq_true rfl) (Nat.le_of_ble_eq_true rfl) (fun q => by rw [zc_13]; rw [zr_znq]) (fun q => zOff.nw) dX6_init_26 (fun q3 H hq_q3 hC => ?_)
  have n_q3 : th ≠ q3 := fun e => by rw [e] at hk_th; omega
  have hk_th : (va_up (va_up (va_up K q1 11) q2 12) q3 13) th = 6 := zup_old hq_q3 hk_th (by decide)
  have hk_q1 : (va_up (va_up (va_up K q1 11) q2 12) q3 13) q1 = 11 := zup_old hq_q3 hk_q1 (by decide)
  have hk_q3 : (va_up (va_up (va_up K q1 11) q2 12) q3 13) q3 = 13 := va_up_self _ _ _
  refine zp_6_2 (x := some q3) (c1 := (zur (znw (zur (znw (zur (znw c q1) 120 th 0 (some q1)) q2) 121 th 0 (some q2)) q3) 122 th 0 (some q3))) hx hb hts hi6 hown hK hC hk_th w8 hin2 rfl rfl dX6_init_29 (fun H locs hC => ?_)
  refine lv_aload_n hx hb dX6_init_32 rfl (lv_at hl 0 rfl) ?_
  refine lv_sipush (v := 200) hx hb dX6_init_33 (by decide) ?_
  refine z_newq (Zn := fun q => (znw (zur (znw (zur (znw (zur (znw c q1) 120 th 0 (some q1)) q2) 121 th 0 (some q2)) q3) 122 th 0 (some q3)) q, r, o)) (lab := 14) (N' := 200) (ti := 6) (C := RX4) hx hb hown w7 (hG.2.2.2.2.2.2.2.2.2.2.2.1 _ (by decide +kernel)) hK rfl hG.1 hC (by decide) (by decide) (by decide) (Nat.le_of_ble_eq_true rfl) (Nat.le_of_ble_eq_true rfl) (fun q => by rw [zc_14]; rw [zr_znq]) (fun q => zOff.nw) dX6_init_36 (fun q4 H hq_q4 hC => ?_)
  have n_q4 : th ≠ q4 := fun e => by rw [e] at hk_th; omega
  have hk_th : (va_up (va_up (va_up (va_up K q1 11) q2 12) q3 13) q4 14) th = 6 := zup_old hq_q4 hk_th (by decide)
  have hk_q1 : (va_up (va_up (va_up (va_up K q1 11) q2 12) q3 13) q4 14) q1 = 11 := zup_old hq_q4 hk_q1 (by decide)
  have hk_q4 : (va_up (va_up (va_up (va_up K q1 11) q2 12) q3 13) q4 14) q4 = 14 := va_up_self _ _ _
  refine zp_6_3 (x := some q4) (c1 := (zur (znw (zur (znw (zur (znw (zur (znw c q1) 120 th 0 (some q1)) q2) 121 th 0 (some q2)) q3) 122 th 0 (some q3)) q4) 123 th 0 (some q4))) hx hb hts hi6 hown hK hC hk_th w9 hin2 rfl rfl dX6_init_39 (fun H locs hC => ?_)
  refine lv_aload_n hx hb dX6_init_42 rfl (lv_at hl 0 rfl) ?_
  refine lv_sipush (v := 200) hx hb dX6_init_43 (by decide) ?_
  refine z_newq (Zn := fun q => (znw (zur (znw (zur (znw (zur (znw (zur (znw c q1) 120 th 0 (some q1)) q2) 121 th 0 (some q2)) q3) 122 th 0 (some q3)) q4) 123 th 0 (some q4)) q, r, o)) (lab := 15) (N' := 200) (ti := 6) (C := RX4) hx hb hown w7 (hG.2.2.2.2.2.2.2.2.2.2.2.1 _ (by decide +kernel)) hK rfl hG.1 hC (by decide) (by decide) (by decide) (Nat.le_of_ble_eq_true rfl) (Nat.le_of_ble_eq_true rfl) (fun q => by rw [zc_15]; rw [zr_znq]) (fun q => zOff.nw) dX6_init_46 (fun q5 H hq_q5 hC => ?_)
  have n_q5 : th ≠ q5 := fun e => by rw [e] at hk_th; omega
  have hk_th : (va_up (va_up (va_up (va_up (va_up K q1 11) q2 12) q3 13) q4 14) q5 15) th = 6 := zup_old hq_q5 hk_th (by decide)
  have hk_q1 : (va_up (va_up (va_up (va_up (va_up K q1 11) q2 12) q3 13) q4 14) q5 15) q1 = 11 := zup_old hq_q5 hk_q1 (by decide)
  have hk_q5 : (va_up (va_up (va_up (va_up (va_up K q1 11) q2 12) q3 13) q4 14) q5 15) q5 = 15 := va_up_self _ _ _
  refine zp_6_4 (x := some q5) (c1 := (zur (znw (zur (znw (zur (znw (zur (znw (zur (znw c q1) 120 th 0 (some q1)) q2) 121 th 0 (some q2)) q3) 122 th 0 (some q3)) q4) 123 th 0 (some q4)) q5) 124 th 0 (some q5))) hx hb hts hi6 hown hK hC hk_th w10 hin2 rfl rfl dX6_init_49 (fun H locs hC => ?_)
  refine lv_iconst (v := 0) hx hb dX6_init_52 (by decide) ?_
  refine lv_istore_n (lv' := [(1, .int 0), (0, .ref th)]) hx hb dX6_init_53 rfl hl (by decide) rfl (fun ls hl => ?_)
  have LOOP : ∀ (k i : Nat), i + k = 40 → ∀ (Ki : Nat → Nat) (Li : List Nat) (ci : zS) (H : Heap) (locs : List Loc) (ls : Array Slot), g_X6_rows q1 i (va_up (va_up (va_up (va_up (va_up K q1 11) q2 12) q3 13) q4 14) q5 15) (((((L ++ [q1]) ++ [q2]) ++ [q3]) ++ [q4]) ++ [q5]) (zur (znw (zur (znw (zur (znw (zur (znw (zur (znw c q1) 120 th 0 (some q1)) q2) 121 th 0 (some q2)) q3) 122 th 0 (some q3)) q4) 123 th 0 (some q4)) q5) 124 th 0 (some q5)) Ki Li ci → Ki th = 6 → Ki q1 = 11 → zr ci 120 th 0 = some q1 → zC D cy base Ki Li (ci, r, o) s.heap H locs → lv_has ls 2 [(1, .int (nI i)), (0, .ref th)] → W p l e (headSpec wsX6_init ({ frames := 2, cells := 125, slots := 16780, locals := 44 })).room s m ([.ref th] : List Value).toArray below meth cd H locs (5 + 3 * i) (660 + 403 * i) (MQ below (va_Qv (fun (u : (Nat → Nat) × List Nat × zS) => g_X6_init K L c th u.1 u.2.1 u.2.2) (fun u => zB D cy base u.1 u.2.1 (u.2.2, r, o)) (zA base)) ([.ref th] : List Value).toArray s 125 16780 (zA base)) (F0 m 54 ls []) := by
    intro k
    induction k with
    | zero =>
      intro i hi Ki Li ci H locs ls hg hk1 hk2 hrow hC hl
      have hi40 : i = 40 := by omega
      subst hi40
      refine lv_iload_n hx hb dX6_init_54 rfl (lv_at hl 0 rfl) ?_
      refine lv_bipush (v := 40) hx hb dX6_init_55 (by decide) ?_
      refine lv_icmp_ge (tgt := 79) hx hb dX6_init_57 (by decide) (fun h => ?_) (fun h => ?_)
      · exact z_vretA (P := fun K1 L1 c1 => g_X6_init K L c th K1 L1 c1) hx hb hr hlocks hC ⟨q1, hq_q1, q2, hq_q2, q3, hq_q3, q4, hq_q4, q5, hq_q5, Ki, Li, ci, hg, rfl, rfl, rfl⟩ dX6_init_79
      · exact absurd (show (40 : Int32) ≤ nI 40 by decide) h
    | succ k ih =>
      intro i hi Ki Li ci H locs ls hg hk1 hk2 hrow hC hl
      have hlt : i < 40 := by omega
      refine lv_iload_n hx hb dX6_init_54 rfl (lv_at hl 0 rfl) ?_
      refine lv_bipush (v := 40) hx hb dX6_init_55 (by decide) ?_
      refine lv_icmp_ge (tgt := 79) hx hb dX6_init_57 (by decide) (fun h => absurd h (nI_ge (a := i) (b := 40) hlt (by decide))) (fun h => ?_)
      refine lv_aload_n hx hb dX6_init_60 rfl (lv_at hl 1 rfl) ?_
      refine zg_6_0 hx hb hts hi6 hown hK hC hk1 w4 dX6_init_61 ?_
      refine z_ref hrow ?_
      refine lv_iload_n hx hb dX6_init_64 rfl (lv_at hl 0 rfl) ?_
      refine z_new (Zn := fun q => (znw ci q, r, o)) (ci := 0) (C := RX0) (T := TX0) (N := 3) (fs := [.null, .null, .int 0]) hx hb hts hi0 tyX0 tyX0_ok hown w3 w11 w12 hK hG.1 hC rfl (fun j hj => by rcases (show j = 0 ∨ j = 1 ∨ j = 2 by omega) with rfl | rfl | rfl <;> rfl) (fun q => by rw [zc_0]; simp [zi_znw, zl_znw, zr_znw, va_rf]) (fun q => zOff.nw) (show 5 + 3 * i + 1 ≤ 125 by omega) (show 660 + 403 * i + 3 ≤ 16780 by omega) dX6_init_65 (fun q H hq hC => ?_)
      have hk1q : va_up Ki q 0 th = 6 := zup_old hq hk1 (by decide)
      have hk2q : va_up Ki q 0 q1 = 11 := zup_old hq hk2 (by decide)
      have hkq : va_up Ki q 0 q = 0 := va_up_self _ _ _
      refine lv_dup hx hb dX6_init_68 rfl ?_
      refine z_cvA (z_rIN (As := []) (rest := [.ref q, .int (nI i), .ref q1]) ⟨hx, hb, hml, hown, hts⟩ (c_X0_init (l := l) (D := D) (cy := cy) (base := base) (st := st) (K := va_up Ki q 0) (L := Li ++ [q]) (c := znw ci q) (r := r) (o := o) q hkq) ⟨va_cnB 0 hts gX6_init_X0_init_n33 rfl rfl rfl (hG.2.2.2.2.2.2.2.2.1 _ (List.mem_of_getElem? (i := 0) rfl)) w12 (by decide +kernel) ⟨(Nat.le_of_ble_eq_true rfl), (Nat.le_of_ble_eq_true rfl)⟩, rfl, w13⟩ hG hC rfl hl.1 rfl (lv_room (Nat.le_of_ble_eq_true rfl)) dX6_init_69 ⟨show 5 + 3 * i + 1 + 2 ≤ 125 by omega, show 660 + 403 * i + 3 + 400 ≤ 16780 by omega⟩) hC (fun K1 L1 c1 H locs hP hC => ?_)
      have hk1 : K1 th = 6 := (g_X0_init_old hP _ (by rw [hk1q]; decide)).trans hk1q
      have hk2 : K1 q1 = 11 := (g_X0_init_old hP _ (by rw [hk2q]; decide)).trans hk2q
      have hkq2 : K1 q = 0 := (g_X0_init_old hP _ (by rw [hkq]; decide)).trans hkq
      have hne : th ≠ q := fun e => by rw [e] at hk1q; rw [hkq] at hk1q; cases hk1q
      refine xp_11 (c1 := zur c1 143 q1 i (some q)) hx hb hK hC hk2 (vp_in_nI hlt (by decide)) hkq2 (by rw [nI_clamp (by omega)]) dX6_init_72 (fun H locs hC => ?_)
      refine lv_iinc (v := nI (i + 1)) (lv' := [(1, .int (nI (i + 1))), (0, .ref th)]) hx hb dX6_init_73 hl (k := 0) rfl (nI_1 i) (by decide) rfl (fun ls hl => ?_)
      refine lv_goto (tgt := 54) hx hb dX6_init_76 (by decide) ?_
      refine W.widen (k := 5 + 3 * (i + 1)) (n := 660 + 403 * (i + 1)) (by omega) (by omega) ?_
      refine ih (i + 1) (by omega) K1 L1 _ _ _ _ ⟨Ki, Li, ci, hg, q, hq, c1, hP, rfl⟩ hk1 hk2 ?_ hC hl
      rw [zr_zur, if_neg (fun x => absurd x.1 (by decide))]
      exact (g_X0_init_keep hP 120 th (by decide) (by rw [hk1q]; decide)).trans ((by rw [zr_znw, if_neg hne] : zr (znw ci q) 120 th 0 = zr ci 120 th 0).trans hrow)
  exact LOOP 40 0 rfl _ _ _ _ _ _ ⟨rfl, rfl, rfl⟩ hk_th hk_q1 (by simp [zr_zur, zr_znw, n_q2, n_q3, n_q4, n_q5]) hC hl
def g_X6_trade (K : Nat → Nat) (L : List Nat) (c : zS) (th : Nat) (p1 : Int32) (p2 : Int32) (p3 : Int32) (a9 : Nat) (rr : Int32) (K9 : Nat → Nat) (L9 : List Nat) (c9 : zS) : Prop :=
  ∃ q : Nat, 255 ≤ K q ∧ K9 = (va_up K q 3) ∧ L9 = (L ++ [q]) ∧ c9 = (zui (zur (zui (zui (zui (zui (znw c q) 60 q 0 (zi c 125 th 0)) 61 q 0 p1) 62 q 0 p2) 63 q 0 p3) 144 a9 (Int32.toNatClampNeg (zi c 125 th 0)) (some q)) 125 th 0 ((zi (zur (zui (zui (zui (zui (znw c q) 60 q 0 (zi c 125 th 0)) 61 q 0 p1) 62 q 0 p2) 63 q 0 p3) 144 a9 (Int32.toNatClampNeg (zi c 125 th 0)) (some q)) 125 th 0) + 1)) ∧ rr = (zi c 125 th 0)
def f_X6_trade (K : Nat → Nat) (z : Nat) (c : zS) (th : Nat) (p1 : Int32) (p2 : Int32) (p3 : Int32) : Option (Nat ⊕ Nat) :=
  (if p1 < 0 then some (.inr 2) else (if p1 ≤ 1000 then (if p2 < 1 then some (.inr 2) else (if p2 ≤ 200 then (if (zi c 125 th 0) < 20 then zlet (zi c 125 th 0) fun x1 => zn K (zr c 121 th 0) 12 fun a2 => zz p3 <| zx x1 20 <| some (.inl a2) else some (.inr 4)) else some (.inr 2))) else some (.inr 2)))
set_option maxRecDepth 100000 in
set_option maxHeartbeats 4000000 in
theorem c_X6_trade {l : Launch} {D : va_G} {cy : Nat → ClassId} {base : Nat} {st : Nat → Nat} {K : Nat → Nat} {L : List Nat} {c r : zS} {o : Int64} {z : Nat} (th : Nat) (p1 : Int32) (p2 : Int32) (p3 : Int32) {res : Nat ⊕ Nat}  (hk_th : K th = 6) (hst : l.stackTraces = false) (hf : f_X6_trade K z c th p1 p2 p3 = some res) : vx_Met l yX6_trade wsX6_trade ({ frames := 6, cells := 2, slots := 12, locals := 100 }) (va_Pc [.ref th, .int p1, .int p2, .int p3] (zGW zts0 zns0 D cy base st K L (c, r, o))) (va_Qi (fun (rr : Int32) (u : (Nat → Nat) × List Nat × zS) => ∃ a, res = .inl a ∧ g_X6_trade K L c th p1 p2 p3 a rr u.1 u.2.1 u.2.2) (fun u => zB D cy base u.1 u.2.1 (u.2.2, r, o)) (zA base)) (vx_X (fun (x : Nat) => res = .inr x) (fun E x t => E = zE x ∧ zB D cy base K L (c, r, o) t) (zA base)) 2 12 (zA base) := by
  refine vx_ofW (cc := cX6_trade) (maxL := 5) (ret := (some .int)) (by decide) rfl ?_
  intro p e s m args below meth cd s₁ B hml htab hv
  obtain ⟨rfl, hG⟩ := hv
  have hx := B.exec
  have hb := B.bytes
  have hr := B.returns
  have hts := atoms_spec (ws := wsX6_trade) B.pre
  have hown : s.vm.findClass RX6 = some m.cls := findClass_of_methodNamed B.named
  have hlocks := B.notSynchronized
  have hC := hG.enter
  have hK := hG.2.2.2.1
  have hi3 : ∀ w ∈ wsX30, w ∈ wsX6_trade := by decide +kernel
  have hi6 : ∀ w ∈ wsX60, w ∈ wsX6_trade := by decide +kernel
  have w0 := hts (.classLink RX6 38 "java/lang/IllegalArgumentException") (by decide +kernel)
  have w1 := hts (.initialized "java/lang/IllegalArgumentException") (by decide +kernel)
  have w2 := hts (.fieldLink RX6 72 "MarketSquare" "tradeCount" "I") (by decide +kernel)
  have w3 := hts (.fieldLink RX6 17 "MarketSquare" "trades" "[LMarketSquare$Trade;") (by decide +kernel)
  have w4 := hts (.classLink RX6 15 RX3) (by decide +kernel)
  have w5 := hts (.instantiable RX3 6) (by decide +kernel)
  have w6 := hts (.initialized RX3) (by decide +kernel)
  have w7 := hts (.methodLink RX6 81 yX3_init) (by decide +kernel)
  have w8 := hts (.instanceMethod yX3_init) (by decide +kernel)
  have w9 := hts (.classLink RX6 76 "java/lang/UnsupportedOperationException") (by decide +kernel)
  have w10 := hts (.initialized "java/lang/UnsupportedOperationException") (by decide +kernel)
  have hl := lv_entry ([.ref th, .int p1, .int p2, .int p3]) (n := 5) (Nat.le_of_ble_eq_true rfl)
  rw [lg_entry_eq]
  generalize (lg_sl ([.ref th, .int p1, .int p2, .int p3]) ++ List.replicate (5 - (lg_sl ([.ref th, .int p1, .int p2, .int p3])).length) Slot.unset).toArray = ls at hl ⊢
  have hl : lv_has ls 5 [(0, .ref th), (1, .int p1), (2, .int p2), (3, .int p3)] := hl
  unfold f_X6_trade at hf
  refine lv_iload_n hx hb dX6_trade_0 rfl (lv_at hl 1 rfl) ?_
  refine lv_if_lt (tgt := 11) hx hb dX6_trade_1 (by decide) (fun h7 => ?_) (fun h7 => ?_)
  · have hf := zif_t hf h7
    exact z_throw (own := RX6) (cls := "java/lang/IllegalArgumentException") (text := "a rate is 0 to 1000") (names := ["java/lang/RuntimeException", "java/lang/Exception"]) (ik := 38) (is := 68) (ic := 42) (k := 2) hx hb hst hown rfl rfl w0 w1 (hG.2.2.2.2.2.2.2.1 3 (RX6, 68, "a rate is 0 to 1000") rfl) (z_hat (ws := wsX6_trade) hts (by decide +kernel) (by decide +kernel) (hG.2.2.2.2.2.2.2.2.2.1 _ (by decide +kernel)) hG.2.2.2.2.2.2.2.2.2.2.2.2) (by decide +kernel) hG hC hl.1 hml dX6_trade_11 dX6_trade_14 dX6_trade_15 dX6_trade_17 dX6_trade_20 htab (Nat.le_of_ble_eq_true rfl) (Nat.le_of_ble_eq_true rfl) (Nat.le_of_ble_eq_true rfl) (Nat.le_of_ble_eq_true rfl) hlocks (Nat.le_of_ble_eq_true rfl) (Nat.le_of_ble_eq_true rfl) hf
  · have hf := zif_f hf h7
    refine lv_iload_n hx hb dX6_trade_4 rfl (lv_at hl 1 rfl) ?_
    refine lv_sipush (v := 1000) hx hb dX6_trade_5 (by decide) ?_
    refine lv_icmp_le (tgt := 21) hx hb dX6_trade_8 (by decide) (fun h6 => ?_) (fun h6 => ?_)
    · have hf := zif_t hf h6
      refine lv_iload_n hx hb dX6_trade_21 rfl (lv_at hl 2 rfl) ?_
      refine lv_iconst (v := 1) hx hb dX6_trade_22 (by decide) ?_
      refine lv_icmp_lt (tgt := 33) hx hb dX6_trade_23 (by decide) (fun h5 => ?_) (fun h5 => ?_)
      · have hf := zif_t hf h5
        exact z_throw (own := RX6) (cls := "java/lang/IllegalArgumentException") (text := "a limit is 1 to 200") (names := ["java/lang/RuntimeException", "java/lang/Exception"]) (ik := 38) (is := 70) (ic := 42) (k := 2) hx hb hst hown rfl rfl w0 w1 (hG.2.2.2.2.2.2.2.1 4 (RX6, 70, "a limit is 1 to 200") rfl) (z_hat (ws := wsX6_trade) hts (by decide +kernel) (by decide +kernel) (hG.2.2.2.2.2.2.2.2.2.1 _ (by decide +kernel)) hG.2.2.2.2.2.2.2.2.2.2.2.2) (by decide +kernel) hG hC hl.1 hml dX6_trade_33 dX6_trade_36 dX6_trade_37 dX6_trade_39 dX6_trade_42 htab (Nat.le_of_ble_eq_true rfl) (Nat.le_of_ble_eq_true rfl) (Nat.le_of_ble_eq_true rfl) (Nat.le_of_ble_eq_true rfl) hlocks (Nat.le_of_ble_eq_true rfl) (Nat.le_of_ble_eq_true rfl) hf
      · have hf := zif_f hf h5
        refine lv_iload_n hx hb dX6_trade_26 rfl (lv_at hl 2 rfl) ?_
        refine lv_sipush (v := 200) hx hb dX6_trade_27 (by decide) ?_
        refine lv_icmp_le (tgt := 43) hx hb dX6_trade_30 (by decide) (fun h4 => ?_) (fun h4 => ?_)
        · have hf := zif_t hf h4
          refine lv_aload_n hx hb dX6_trade_43 rfl (lv_at hl 0 rfl) ?_
          refine zg_6_5 hx hb hts hi6 hown hK hC hk_th w2 dX6_trade_44 ?_
          refine lv_bipush (v := 20) hx hb dX6_trade_47 (by decide) ?_
          refine lv_icmp_lt (tgt := 62) hx hb dX6_trade_49 (by decide) (fun h3 => ?_) (fun h3 => ?_)
          · have hf := zif_t hf h3
            refine lv_aload_n hx hb dX6_trade_62 rfl (lv_at hl 0 rfl) ?_
            refine zg_6_5 hx hb hts hi6 hown hK hC hk_th w2 dX6_trade_63 ?_
            obtain ⟨x1, ex1, hf⟩ := zlet_inv hf
            refine z_name ex1 ?_
            refine lv_istore (lv' := [(4, .int x1), (0, .ref th), (1, .int p1), (2, .int p2), (3, .int p3)]) hx hb dX6_trade_66 hl (by decide) rfl (fun ls hl => ?_)
            refine lv_aload_n hx hb dX6_trade_68 rfl (lv_at hl 1 rfl) ?_
            refine zg_6_1 hx hb hts hi6 hown hK hC hk_th w3 dX6_trade_69 ?_
            obtain ⟨a2, ea2, hk_a2, hf⟩ := zn_inv hf
            refine z_ref ea2 ?_
            refine lv_iload hx hb dX6_trade_72 (lv_at hl 0 rfl) ?_
            subst ex1
            obtain ⟨hz3, hf⟩ := zz_inv hf
            obtain ⟨hix, hf⟩ := zx_inv hf
            refine z_new (Zn := fun q => (znw c q, r, o)) (ci := 3) (C := RX3) (T := TX3) (N := 6) (fs := [.int 0, .int 0, .int 0, .int 0, .int 0, .int 0]) hx hb hts hi3 tyX3 tyX3_ok hown w4 w5 w6 hK hG.1 hC rfl (fun j hj => by rcases (show j = 0 ∨ j = 1 ∨ j = 2 ∨ j = 3 ∨ j = 4 ∨ j = 5 by omega) with rfl | rfl | rfl | rfl | rfl | rfl <;> rfl) (fun q => by rw [zc_3]; simp [zi_znw, zl_znw, zr_znw, va_rf]) (fun q => zOff.nw) (Nat.le_of_ble_eq_true rfl) (Nat.le_of_ble_eq_true rfl) dX6_trade_74 (fun q H hq_q hC => ?_)
            have hk_th : (va_up K q 3) th = 6 := zup_old hq_q hk_th (by decide)
            have hk_a2 : (va_up K q 3) a2 = 12 := zup_old hq_q hk_a2 (by decide)
            have hk_q : (va_up K q 3) q = 3 := va_up_self _ _ _
            refine lv_dup hx hb dX6_trade_77 rfl ?_
            refine lv_iload hx hb dX6_trade_78 (lv_at hl 0 rfl) ?_
            refine lv_iload_n hx hb dX6_trade_80 rfl (lv_at hl 2 rfl) ?_
            refine lv_iload_n hx hb dX6_trade_81 rfl (lv_at hl 3 rfl) ?_
            refine lv_iload_n hx hb dX6_trade_82 rfl (lv_at hl 4 rfl) ?_
            refine z_cv (z_rI (As := [.int (zi c 125 th 0), .int p1, .int p2, .int p3]) (rest := [.ref q, .int (zi c 125 th 0), .ref a2]) ⟨hx, hb, hml, hown, hts⟩ (c_X3_init (l := l) (D := D) (cy := cy) (base := base) (st := st) (K := (va_up K q 3)) (L := (L ++ [q])) (c := (znw c q)) (r := r) (o := o) (z := 0) (cf := (zui (zui (zui (zui (znw c q) 60 q 0 (zi c 125 th 0)) 61 q 0 p1) 62 q 0 p2) 63 q 0 p3)) q (zi c 125 th 0) p1 p2 p3 hk_q (by simp only [f_X3_init, zlet, zz, if_pos hz3])) (cwI 4 hts gX6_trade_X3_init rfl rfl rfl w6 w7 w8 rfl (by decide +kernel) ⟨(Nat.le_of_ble_eq_true rfl), (Nat.le_of_ble_eq_true rfl)⟩) hG hC rfl hl.1 rfl (lv_room (Nat.le_of_ble_eq_true rfl)) dX6_trade_83 ⟨(Nat.le_of_ble_eq_true rfl), (Nat.le_of_ble_eq_true rfl)⟩) hC (fun H locs hC => ?_)
            refine xp_12 (c1 := (zur (zui (zui (zui (zui (znw c q) 60 q 0 (zi c 125 th 0)) 61 q 0 p1) 62 q 0 p2) 63 q 0 p3) 144 a2 (Int32.toNatClampNeg (zi c 125 th 0)) (some q))) hx hb hK hC hk_a2 hix hk_q rfl dX6_trade_86 (fun H locs hC => ?_)
            refine lv_aload_n hx hb dX6_trade_87 rfl (lv_at hl 1 rfl) ?_
            refine lv_dup hx hb dX6_trade_88 rfl ?_
            refine zg_6_5 hx hb hts hi6 hown hK hC hk_th w2 dX6_trade_89 ?_
            refine lv_iconst (v := 1) hx hb dX6_trade_92 (by decide) ?_
            refine lv_iadd hx hb dX6_trade_93 ?_
            refine zp_6_5 (c1 := (zui (zur (zui (zui (zui (zui (znw c q) 60 q 0 (zi c 125 th 0)) 61 q 0 p1) 62 q 0 p2) 63 q 0 p3) 144 a2 (Int32.toNatClampNeg (zi c 125 th 0)) (some q)) 125 th 0 ((zi (zur (zui (zui (zui (zui (znw c q) 60 q 0 (zi c 125 th 0)) 61 q 0 p1) 62 q 0 p2) 63 q 0 p3) 144 a2 (Int32.toNatClampNeg (zi c 125 th 0)) (some q)) 125 th 0) + 1))) hx hb hts hi6 hown hK hC hk_th w2 rfl dX6_trade_94 (fun H locs hC => ?_)
            refine lv_iload hx hb dX6_trade_97 (lv_at hl 0 rfl) ?_
            refine W.widen (k := 2) (n := 12) (Nat.le_of_ble_eq_true rfl) (Nat.le_of_ble_eq_true rfl) ?_
            exact z_xiretA (P := fun rr K1 L1 c1 => ∃ a, res = .inl a ∧ g_X6_trade K L c th p1 p2 p3 a rr K1 L1 c1) (x := (zi c 125 th 0)) hx hb hr hlocks hC ⟨_, (Option.some.inj hf).symm, q, hq_q, rfl, rfl, rfl, rfl⟩ dX6_trade_99
          · have hf := zif_f hf h3
            exact z_throw (own := RX6) (cls := "java/lang/UnsupportedOperationException") (text := "there are 20 trades") (names := ["java/lang/RuntimeException", "java/lang/Exception"]) (ik := 76) (is := 78) (ic := 80) (k := 4) hx hb hst hown rfl rfl w9 w10 (hG.2.2.2.2.2.2.2.1 5 (RX6, 78, "there are 20 trades") rfl) (z_hat (ws := wsX6_trade) hts (by decide +kernel) (by decide +kernel) (hG.2.2.2.2.2.2.2.2.2.1 _ (by decide +kernel)) hG.2.2.2.2.2.2.2.2.2.2.2.2) (by decide +kernel) hG hC hl.1 hml dX6_trade_52 dX6_trade_55 dX6_trade_56 dX6_trade_58 dX6_trade_61 htab (Nat.le_of_ble_eq_true rfl) (Nat.le_of_ble_eq_true rfl) (Nat.le_of_ble_eq_true rfl) (Nat.le_of_ble_eq_true rfl) hlocks (Nat.le_of_ble_eq_true rfl) (Nat.le_of_ble_eq_true rfl) hf
        · have hf := zif_f hf h4
          exact z_throw (own := RX6) (cls := "java/lang/IllegalArgumentException") (text := "a limit is 1 to 200") (names := ["java/lang/RuntimeException", "java/lang/Exception"]) (ik := 38) (is := 70) (ic := 42) (k := 2) hx hb hst hown rfl rfl w0 w1 (hG.2.2.2.2.2.2.2.1 4 (RX6, 70, "a limit is 1 to 200") rfl) (z_hat (ws := wsX6_trade) hts (by decide +kernel) (by decide +kernel) (hG.2.2.2.2.2.2.2.2.2.1 _ (by decide +kernel)) hG.2.2.2.2.2.2.2.2.2.2.2.2) (by decide +kernel) hG hC hl.1 hml dX6_trade_33 dX6_trade_36 dX6_trade_37 dX6_trade_39 dX6_trade_42 htab (Nat.le_of_ble_eq_true rfl) (Nat.le_of_ble_eq_true rfl) (Nat.le_of_ble_eq_true rfl) (Nat.le_of_ble_eq_true rfl) hlocks (Nat.le_of_ble_eq_true rfl) (Nat.le_of_ble_eq_true rfl) hf
    · have hf := zif_f hf h6
      exact z_throw (own := RX6) (cls := "java/lang/IllegalArgumentException") (text := "a rate is 0 to 1000") (names := ["java/lang/RuntimeException", "java/lang/Exception"]) (ik := 38) (is := 68) (ic := 42) (k := 2) hx hb hst hown rfl rfl w0 w1 (hG.2.2.2.2.2.2.2.1 3 (RX6, 68, "a rate is 0 to 1000") rfl) (z_hat (ws := wsX6_trade) hts (by decide +kernel) (by decide +kernel) (hG.2.2.2.2.2.2.2.2.2.1 _ (by decide +kernel)) hG.2.2.2.2.2.2.2.2.2.2.2.2) (by decide +kernel) hG hC hl.1 hml dX6_trade_11 dX6_trade_14 dX6_trade_15 dX6_trade_17 dX6_trade_20 htab (Nat.le_of_ble_eq_true rfl) (Nat.le_of_ble_eq_true rfl) (Nat.le_of_ble_eq_true rfl) (Nat.le_of_ble_eq_true rfl) hlocks (Nat.le_of_ble_eq_true rfl) (Nat.le_of_ble_eq_true rfl) hf
def g_X6_trader (K : Nat → Nat) (L : List Nat) (c : zS) (th : Nat) (p1 : Int32) (p2 : Int32) (p3 : Int32) (a9 : Nat) (rr : Int32) (K9 : Nat → Nat) (L9 : List Nat) (c9 : zS) : Prop :=
  ∃ q : Nat, 255 ≤ K q ∧ ∃ aT : Nat, zr c 122 th 0 = some aT ∧ ∃ aD : Nat, zr c 123 th 0 = some aD ∧ ∃ (K3 : Nat → Nat) (L3 : List Nat) (c3 : zS), g_X4_init (va_up K q 4) (L ++ [q]) (znw c q) q (zi c 126 th 0) p1 a9 p3 (zi (znw c q) 127 th 0) K3 L3 c3 ∧ K9 = K3 ∧ L9 = L3 ∧ c9 = (zui (zui (zur (zur c3 145 aT (Int32.toNatClampNeg (zi c 126 th 0)) (some q)) 146 aD (Int32.toNatClampNeg (zi c 126 th 0)) (some q)) 126 th 0 ((zi (zur (zur c3 145 aT (Int32.toNatClampNeg (zi c 126 th 0)) (some q)) 146 aD (Int32.toNatClampNeg (zi c 126 th 0)) (some q)) 126 th 0) + 1)) 127 th 0 ((zi (zui (zur (zur c3 145 aT (Int32.toNatClampNeg (zi c 126 th 0)) (some q)) 146 aD (Int32.toNatClampNeg (zi c 126 th 0)) (some q)) 126 th 0 ((zi (zur (zur c3 145 aT (Int32.toNatClampNeg (zi c 126 th 0)) (some q)) 146 aD (Int32.toNatClampNeg (zi c 126 th 0)) (some q)) 126 th 0) + 1)) 127 th 0) + 1)) ∧ rr = (zi c 126 th 0)
def f_X6_trader (K : Nat → Nat) (z : Nat) (c : zS) (th : Nat) (p1 : Int32) (p2 : Int32) (p3 : Int32) : Option (Nat ⊕ Nat) :=
  zt (f_X6_knownTrade K z c th p2) fun o2 => zn K o2 3 fun a4 => (if p1 < 0 then some (.inr 2) else (if p1 ≤ 4 then (if p3 < 1 then some (.inr 2) else (if p3 ≤ 20 then (if (zi c 126 th 0) < 200 then zlet (zi c 126 th 0) fun x5 => zx x5 200 <| zn K (zr c 122 th 0) 13 fun aT => zn K (zr c 123 th 0) 14 fun aD => some (.inl a4) else some (.inr 4)) else some (.inr 2))) else some (.inr 2)))
set_option maxRecDepth 100000 in
set_option maxHeartbeats 4000000 in
theorem c_X6_trader {l : Launch} {D : va_G} {cy : Nat → ClassId} {base : Nat} {st : Nat → Nat} {K : Nat → Nat} {L : List Nat} {c r : zS} {o : Int64} {z : Nat} (th : Nat) (p1 : Int32) (p2 : Int32) (p3 : Int32) {res : Nat ⊕ Nat}  (hk_th : K th = 6) (hst : l.stackTraces = false) (hf : f_X6_trader K z c th p1 p2 p3 = some res) : vx_Met l yX6_trader wsX6_trader ({ frames := 7, cells := 9, slots := 68, locals := 122 }) (va_Pc [.ref th, .int p1, .int p2, .int p3] (zGW zts0 zns0 D cy base st K L (c, r, o))) (va_Qi (fun (rr : Int32) (u : (Nat → Nat) × List Nat × zS) => ∃ a, res = .inl a ∧ g_X6_trader K L c th p1 p2 p3 a rr u.1 u.2.1 u.2.2) (fun u => zB D cy base u.1 u.2.1 (u.2.2, r, o)) (zA base)) (vx_X (fun (x : Nat) => res = .inr x) (fun E x t => E = zE x ∧ zB D cy base K L (c, r, o) t) (zA base)) 9 68 (zA base) := by
  refine vx_ofW (cc := cX6_trader) (maxL := 7) (ret := (some .int)) (by decide) rfl ?_
  intro p e s m args below meth cd s₁ B hml htab hv
  obtain ⟨rfl, hG⟩ := hv
  have hx := B.exec
  have hb := B.bytes
  have hr := B.returns
  have hts := atoms_spec (ws := wsX6_trader) B.pre
  have hown : s.vm.findClass RX6 = some m.cls := findClass_of_methodNamed B.named
  have hlocks := B.notSynchronized
  have hC := hG.enter
  have hK := hG.2.2.2.1
  have hi4 : ∀ w ∈ wsX40, w ∈ wsX6_trader := by decide +kernel
  have hi6 : ∀ w ∈ wsX60, w ∈ wsX6_trader := by decide +kernel
  have w0 := hts (.classLink RX6 38 "java/lang/IllegalArgumentException") (by decide +kernel)
  have w1 := hts (.initialized "java/lang/IllegalArgumentException") (by decide +kernel)
  have w2 := hts (.fieldLink RX6 100 "MarketSquare" "traderCount" "I") (by decide +kernel)
  have w3 := hts (.classLink RX6 21 RX4) (by decide +kernel)
  have w4 := hts (.instantiable RX4 14) (by decide +kernel)
  have w5 := hts (.initialized RX4) (by decide +kernel)
  have w6 := hts (.fieldLink RX6 105 "MarketSquare" "nextRank" "I") (by decide +kernel)
  have w7 := hts (.methodLink RX6 108 yX4_init) (by decide +kernel)
  have w8 := hts (.instanceMethod yX4_init) (by decide +kernel)
  have w9 := hts (.fieldLink RX6 23 "MarketSquare" "traders" "[LMarketSquare$Trader;") (by decide +kernel)
  have w10 := hts (.fieldLink RX6 27 "MarketSquare" "ranked" "[LMarketSquare$Trader;") (by decide +kernel)
  have w11 := hts (.classLink RX6 76 "java/lang/UnsupportedOperationException") (by decide +kernel)
  have w12 := hts (.initialized "java/lang/UnsupportedOperationException") (by decide +kernel)
  have hl := lv_entry ([.ref th, .int p1, .int p2, .int p3]) (n := 7) (Nat.le_of_ble_eq_true rfl)
  rw [lg_entry_eq]
  generalize (lg_sl ([.ref th, .int p1, .int p2, .int p3]) ++ List.replicate (7 - (lg_sl ([.ref th, .int p1, .int p2, .int p3])).length) Slot.unset).toArray = ls at hl ⊢
  have hl : lv_has ls 7 [(0, .ref th), (1, .int p1), (2, .int p2), (3, .int p3)] := hl
  unfold f_X6_trader at hf
  refine lv_aload_n hx hb dX6_trader_0 rfl (lv_at hl 0 rfl) ?_
  refine lv_iload_n hx hb dX6_trader_1 rfl (lv_at hl 2 rfl) ?_
  obtain ⟨q3, hc1, hfn, hfx⟩ := zt_inv hf
  refine z_xcq (z_rxV (As := [.int p2]) (rest := []) ⟨hx, hb, hml, hown, hts⟩ (c_X6_knownTrade (l := l) (D := D) (cy := cy) (base := base) (st := st) (K := K) (L := L) (c := c) (r := r) (o := o) (z := z) th p2 hk_th hst hc1) (cwV 1 hts gX6_trader_X6_knownTrade rfl rfl rfl (by decide +kernel) ⟨Nat.le_of_ble_eq_true rfl, Nat.le_of_ble_eq_true rfl⟩) hG hC (zC.recv (ci := 6) (fs := _) hK hC (by rw [hk_th]; decide) (by rw [hk_th]; exact zc_6 cy _ _) rfl) rfl hl.1 rfl (lv_room (Nat.le_of_ble_eq_true rfl)) dX6_trader_2 ⟨Nat.le_of_ble_eq_true rfl, Nat.le_of_ble_eq_true rfl⟩) hC (fun _ H locs q9 ce hq hC h1 h2 h3 => z_xout htab hlocks (hfx _ hq) hC h1 h2 h3 (Nat.le_of_ble_eq_true rfl) (Nat.le_of_ble_eq_true rfl)) (fun o2 H locs hq hC => ?_)
  have hf := hfn _ hq
  obtain ⟨a4, ea4, hk_a4, hf⟩ := zn_inv hf
  refine z_ref ea4 ?_
  refine lv_astore (lv' := [(4, .ref a4), (0, .ref th), (1, .int p1), (2, .int p2), (3, .int p3)]) hx hb dX6_trader_5 hl (by decide) rfl (fun ls hl => ?_)
  refine lv_iload_n hx hb dX6_trader_7 rfl (lv_at hl 2 rfl) ?_
  refine lv_if_lt (tgt := 16) hx hb dX6_trader_8 (by decide) (fun h10 => ?_) (fun h10 => ?_)
  · have hf := zif_t hf h10
    exact z_throw (own := RX6) (cls := "java/lang/IllegalArgumentException") (text := "a kind is 0 to 4") (names := ["java/lang/RuntimeException", "java/lang/Exception"]) (ik := 38) (is := 96) (ic := 42) (k := 2) hx hb hst hown rfl rfl w0 w1 (hG.2.2.2.2.2.2.2.1 6 (RX6, 96, "a kind is 0 to 4") rfl) (z_hat (ws := wsX6_trader) hts (by decide +kernel) (by decide +kernel) (hG.2.2.2.2.2.2.2.2.2.1 _ (by decide +kernel)) hG.2.2.2.2.2.2.2.2.2.2.2.2) (by decide +kernel) hG hC hl.1 hml dX6_trader_16 dX6_trader_19 dX6_trader_20 dX6_trader_22 dX6_trader_25 htab (Nat.le_of_ble_eq_true rfl) (Nat.le_of_ble_eq_true rfl) (Nat.le_of_ble_eq_true rfl) (Nat.le_of_ble_eq_true rfl) hlocks (Nat.le_of_ble_eq_true rfl) (Nat.le_of_ble_eq_true rfl) hf
  · have hf := zif_f hf h10
    refine lv_iload_n hx hb dX6_trader_11 rfl (lv_at hl 2 rfl) ?_
    refine lv_iconst (v := 4) hx hb dX6_trader_12 (by decide) ?_
    refine lv_icmp_le (tgt := 26) hx hb dX6_trader_13 (by decide) (fun h9 => ?_) (fun h9 => ?_)
    · have hf := zif_t hf h9
      refine lv_iload_n hx hb dX6_trader_26 rfl (lv_at hl 4 rfl) ?_
      refine lv_iconst (v := 1) hx hb dX6_trader_27 (by decide) ?_
      refine lv_icmp_lt (tgt := 37) hx hb dX6_trader_28 (by decide) (fun h8 => ?_) (fun h8 => ?_)
      · have hf := zif_t hf h8
        exact z_throw (own := RX6) (cls := "java/lang/IllegalArgumentException") (text := "a front is 1 to 20") (names := ["java/lang/RuntimeException", "java/lang/Exception"]) (ik := 38) (is := 98) (ic := 42) (k := 2) hx hb hst hown rfl rfl w0 w1 (hG.2.2.2.2.2.2.2.1 7 (RX6, 98, "a front is 1 to 20") rfl) (z_hat (ws := wsX6_trader) hts (by decide +kernel) (by decide +kernel) (hG.2.2.2.2.2.2.2.2.2.1 _ (by decide +kernel)) hG.2.2.2.2.2.2.2.2.2.2.2.2) (by decide +kernel) hG hC hl.1 hml dX6_trader_37 dX6_trader_40 dX6_trader_41 dX6_trader_43 dX6_trader_46 htab (Nat.le_of_ble_eq_true rfl) (Nat.le_of_ble_eq_true rfl) (Nat.le_of_ble_eq_true rfl) (Nat.le_of_ble_eq_true rfl) hlocks (Nat.le_of_ble_eq_true rfl) (Nat.le_of_ble_eq_true rfl) hf
      · have hf := zif_f hf h8
        refine lv_iload_n hx hb dX6_trader_31 rfl (lv_at hl 4 rfl) ?_
        refine lv_bipush (v := 20) hx hb dX6_trader_32 (by decide) ?_
        refine lv_icmp_le (tgt := 47) hx hb dX6_trader_34 (by decide) (fun h7 => ?_) (fun h7 => ?_)
        · have hf := zif_t hf h7
          refine lv_aload_n hx hb dX6_trader_47 rfl (lv_at hl 1 rfl) ?_
          refine zg_6_6 hx hb hts hi6 hown hK hC hk_th w2 dX6_trader_48 ?_
          refine lv_sipush (v := 200) hx hb dX6_trader_51 (by decide) ?_
          refine lv_icmp_lt (tgt := 67) hx hb dX6_trader_54 (by decide) (fun h6 => ?_) (fun h6 => ?_)
          · have hf := zif_t hf h6
            refine lv_aload_n hx hb dX6_trader_67 rfl (lv_at hl 1 rfl) ?_
            refine zg_6_6 hx hb hts hi6 hown hK hC hk_th w2 dX6_trader_68 ?_
            obtain ⟨x5, ex5, hf⟩ := zlet_inv hf
            refine z_name ex5 ?_
            refine lv_istore (lv' := [(5, .int x5), (4, .ref a4), (0, .ref th), (1, .int p1), (2, .int p2), (3, .int p3)]) hx hb dX6_trader_71 hl (by decide) rfl (fun ls hl => ?_)
            subst ex5
            obtain ⟨hix, hf⟩ := zx_inv hf
            obtain ⟨aT, eaT, hk_aT, hf⟩ := zn_inv hf
            obtain ⟨aD, eaD, hk_aD, hf⟩ := zn_inv hf
            refine z_new (Zn := fun q => (znw c q, r, o)) (ci := 4) (C := RX4) (T := TX4) (N := 14) (fs := [.int 0, .null, .int 0, .null, .null, .null, .int 0, .int 0, .int 0, .int 0, .int 0, .int 0, .int 0, .long 0]) hx hb hts hi4 tyX4 tyX4_ok hown w3 w4 w5 hK hG.1 hC rfl (fun j hj => by rcases (show j = 0 ∨ j = 1 ∨ j = 2 ∨ j = 3 ∨ j = 4 ∨ j = 5 ∨ j = 6 ∨ j = 7 ∨ j = 8 ∨ j = 9 ∨ j = 10 ∨ j = 11 ∨ j = 12 ∨ j = 13 by omega) with rfl | rfl | rfl | rfl | rfl | rfl | rfl | rfl | rfl | rfl | rfl | rfl | rfl | rfl <;> rfl) (fun q => by rw [zc_4]; simp [zi_znw, zl_znw, zr_znw, va_rf]) (fun q => zOff.nw) (Nat.le_of_ble_eq_true rfl) (Nat.le_of_ble_eq_true rfl) dX6_trader_73 (fun q H hq_q hC => ?_)
            have hk_th : (va_up K q 4) th = 6 := zup_old hq_q hk_th (by decide)
            have hk_a4 : (va_up K q 4) a4 = 3 := zup_old hq_q hk_a4 (by decide)
            have hk_aT : (va_up K q 4) aT = 13 := zup_old hq_q hk_aT (by decide)
            have hk_aD : (va_up K q 4) aD = 14 := zup_old hq_q hk_aD (by decide)
            have hk_q : (va_up K q 4) q = 4 := va_up_self _ _ _
            refine lv_dup hx hb dX6_trader_76 rfl ?_
            refine lv_iload hx hb dX6_trader_77 (lv_at hl 0 rfl) ?_
            refine lv_iload_n hx hb dX6_trader_79 rfl (lv_at hl 3 rfl) ?_
            refine lv_aload hx hb dX6_trader_80 (lv_at hl 1 rfl) ?_
            refine lv_iload_n hx hb dX6_trader_82 rfl (lv_at hl 5 rfl) ?_
            refine lv_aload_n hx hb dX6_trader_83 rfl (lv_at hl 2 rfl) ?_
            refine zg_6_7 hx hb hts hi6 hown hK hC hk_th w6 dX6_trader_84 ?_
            have hSaD : ∀ K3 L3 c3, g_X4_init (va_up K q 4) (L ++ [q]) (znw c q) q (zi c 126 th 0) p1 a4 p3 (zi (znw c q) 127 th 0) K3 L3 c3 → zr c3 123 th 0 = some aD := fun K3 L3 c3 hP => (g_X4_init_keep hP 123 th (by decide) (by rw [hk_th]; decide)).trans (by rw [zr_znw, if_neg (fun e => by rw [e] at hk_th; rw [hk_q] at hk_th; cases hk_th)]; exact eaD)
            have hSaT : ∀ K3 L3 c3, g_X4_init (va_up K q 4) (L ++ [q]) (znw c q) q (zi c 126 th 0) p1 a4 p3 (zi (znw c q) 127 th 0) K3 L3 c3 → zr c3 122 th 0 = some aT := fun K3 L3 c3 hP => (g_X4_init_keep hP 122 th (by decide) (by rw [hk_th]; decide)).trans (by rw [zr_znw, if_neg (fun e => by rw [e] at hk_th; rw [hk_q] at hk_th; cases hk_th)]; exact eaT)
            refine z_cvA (z_rI (As := [.int (zi c 126 th 0), .int p1, .ref a4, .int p3, .int (zi (znw c q) 127 th 0)]) (rest := [.ref q]) ⟨hx, hb, hml, hown, hts⟩ (c_X4_init (l := l) (D := D) (cy := cy) (base := base) (st := st) (K := (va_up K q 4)) (L := (L ++ [q])) (c := (znw c q)) (r := r) (o := o) q (zi c 126 th 0) p1 a4 p3 (zi (znw c q) 127 th 0) hk_q hk_a4) (cwI 5 hts gX6_trader_X4_init rfl rfl rfl w5 w7 w8 rfl (by decide +kernel) ⟨(Nat.le_of_ble_eq_true rfl), (Nat.le_of_ble_eq_true rfl)⟩) hG hC rfl hl.1 rfl (lv_room (Nat.le_of_ble_eq_true rfl)) dX6_trader_87 ⟨(Nat.le_of_ble_eq_true rfl), (Nat.le_of_ble_eq_true rfl)⟩) hC (fun K3 L3 c3 H locs hP3 hC => ?_)
            have hk_th : K3 th = 6 := (g_X4_init_old hP3 _ (by rw [hk_th]; decide)).trans hk_th
            have hk_a4 : K3 a4 = 3 := (g_X4_init_old hP3 _ (by rw [hk_a4]; decide)).trans hk_a4
            have hk_aT : K3 aT = 13 := (g_X4_init_old hP3 _ (by rw [hk_aT]; decide)).trans hk_aT
            have hk_aD : K3 aD = 14 := (g_X4_init_old hP3 _ (by rw [hk_aD]; decide)).trans hk_aD
            have hk_q : K3 q = 4 := (g_X4_init_old hP3 _ (by rw [hk_q]; decide)).trans hk_q
            refine lv_astore (lv' := [(6, .ref q), (5, .int (zi c 126 th 0)), (4, .ref a4), (0, .ref th), (1, .int p1), (2, .int p2), (3, .int p3)]) hx hb dX6_trader_90 hl (by decide) rfl (fun ls hl => ?_)
            refine lv_aload_n hx hb dX6_trader_92 rfl (lv_at hl 3 rfl) ?_
            refine zg_6_2 hx hb hts hi6 hown hK hC hk_th w9 dX6_trader_93 ?_
            refine z_ref (y := aT) (hSaT _ _ _ hP3) ?_
            refine lv_iload hx hb dX6_trader_96 (lv_at hl 1 rfl) ?_
            refine lv_aload hx hb dX6_trader_98 (lv_at hl 0 rfl) ?_
            refine xp_13 (c1 := (zur c3 145 aT (Int32.toNatClampNeg (zi c 126 th 0)) (some q))) hx hb hK hC hk_aT hix hk_q rfl dX6_trader_100 (fun H locs hC => ?_)
            refine lv_aload_n hx hb dX6_trader_101 rfl (lv_at hl 3 rfl) ?_
            refine zg_6_3 hx hb hts hi6 hown hK hC hk_th w10 dX6_trader_102 ?_
            refine z_ref (y := aD) (by rw [zr_zur, if_neg (fun x => absurd x.1 (by decide))]; exact hSaD _ _ _ hP3) ?_
            refine lv_iload hx hb dX6_trader_105 (lv_at hl 1 rfl) ?_
            refine lv_aload hx hb dX6_trader_107 (lv_at hl 0 rfl) ?_
            refine xp_14 (c1 := (zur (zur c3 145 aT (Int32.toNatClampNeg (zi c 126 th 0)) (some q)) 146 aD (Int32.toNatClampNeg (zi c 126 th 0)) (some q))) hx hb hK hC hk_aD hix hk_q rfl dX6_trader_109 (fun H locs hC => ?_)
            refine lv_aload_n hx hb dX6_trader_110 rfl (lv_at hl 3 rfl) ?_
            refine lv_dup hx hb dX6_trader_111 rfl ?_
            refine zg_6_6 hx hb hts hi6 hown hK hC hk_th w2 dX6_trader_112 ?_
            refine lv_iconst (v := 1) hx hb dX6_trader_115 (by decide) ?_
            refine lv_iadd hx hb dX6_trader_116 ?_
            refine zp_6_6 (c1 := (zui (zur (zur c3 145 aT (Int32.toNatClampNeg (zi c 126 th 0)) (some q)) 146 aD (Int32.toNatClampNeg (zi c 126 th 0)) (some q)) 126 th 0 ((zi (zur (zur c3 145 aT (Int32.toNatClampNeg (zi c 126 th 0)) (some q)) 146 aD (Int32.toNatClampNeg (zi c 126 th 0)) (some q)) 126 th 0) + 1))) hx hb hts hi6 hown hK hC hk_th w2 rfl dX6_trader_117 (fun H locs hC => ?_)
            refine lv_aload_n hx hb dX6_trader_120 rfl (lv_at hl 3 rfl) ?_
            refine lv_dup hx hb dX6_trader_121 rfl ?_
            refine zg_6_7 hx hb hts hi6 hown hK hC hk_th w6 dX6_trader_122 ?_
            refine lv_iconst (v := 1) hx hb dX6_trader_125 (by decide) ?_
            refine lv_iadd hx hb dX6_trader_126 ?_
            refine zp_6_7 (c1 := (zui (zui (zur (zur c3 145 aT (Int32.toNatClampNeg (zi c 126 th 0)) (some q)) 146 aD (Int32.toNatClampNeg (zi c 126 th 0)) (some q)) 126 th 0 ((zi (zur (zur c3 145 aT (Int32.toNatClampNeg (zi c 126 th 0)) (some q)) 146 aD (Int32.toNatClampNeg (zi c 126 th 0)) (some q)) 126 th 0) + 1)) 127 th 0 ((zi (zui (zur (zur c3 145 aT (Int32.toNatClampNeg (zi c 126 th 0)) (some q)) 146 aD (Int32.toNatClampNeg (zi c 126 th 0)) (some q)) 126 th 0 ((zi (zur (zur c3 145 aT (Int32.toNatClampNeg (zi c 126 th 0)) (some q)) 146 aD (Int32.toNatClampNeg (zi c 126 th 0)) (some q)) 126 th 0) + 1)) 127 th 0) + 1))) hx hb hts hi6 hown hK hC hk_th w6 rfl dX6_trader_127 (fun H locs hC => ?_)
            refine lv_iload hx hb dX6_trader_130 (lv_at hl 1 rfl) ?_
            refine W.widen (k := 9) (n := 68) (Nat.le_of_ble_eq_true rfl) (Nat.le_of_ble_eq_true rfl) ?_
            exact z_xiretA (P := fun rr K1 L1 c1 => ∃ a, res = .inl a ∧ g_X6_trader K L c th p1 p2 p3 a rr K1 L1 c1) (x := (zi c 126 th 0)) hx hb hr hlocks hC ⟨_, (Option.some.inj hf).symm, q, hq_q, aT, eaT, aD, eaD, K3, L3, c3, hP3, rfl, rfl, rfl, rfl⟩ dX6_trader_132
          · have hf := zif_f hf h6
            exact z_throw (own := RX6) (cls := "java/lang/UnsupportedOperationException") (text := "there are 200 traders") (names := ["java/lang/RuntimeException", "java/lang/Exception"]) (ik := 76) (is := 103) (ic := 80) (k := 4) hx hb hst hown rfl rfl w11 w12 (hG.2.2.2.2.2.2.2.1 8 (RX6, 103, "there are 200 traders") rfl) (z_hat (ws := wsX6_trader) hts (by decide +kernel) (by decide +kernel) (hG.2.2.2.2.2.2.2.2.2.1 _ (by decide +kernel)) hG.2.2.2.2.2.2.2.2.2.2.2.2) (by decide +kernel) hG hC hl.1 hml dX6_trader_57 dX6_trader_60 dX6_trader_61 dX6_trader_63 dX6_trader_66 htab (Nat.le_of_ble_eq_true rfl) (Nat.le_of_ble_eq_true rfl) (Nat.le_of_ble_eq_true rfl) (Nat.le_of_ble_eq_true rfl) hlocks (Nat.le_of_ble_eq_true rfl) (Nat.le_of_ble_eq_true rfl) hf
        · have hf := zif_f hf h7
          exact z_throw (own := RX6) (cls := "java/lang/IllegalArgumentException") (text := "a front is 1 to 20") (names := ["java/lang/RuntimeException", "java/lang/Exception"]) (ik := 38) (is := 98) (ic := 42) (k := 2) hx hb hst hown rfl rfl w0 w1 (hG.2.2.2.2.2.2.2.1 7 (RX6, 98, "a front is 1 to 20") rfl) (z_hat (ws := wsX6_trader) hts (by decide +kernel) (by decide +kernel) (hG.2.2.2.2.2.2.2.2.2.1 _ (by decide +kernel)) hG.2.2.2.2.2.2.2.2.2.2.2.2) (by decide +kernel) hG hC hl.1 hml dX6_trader_37 dX6_trader_40 dX6_trader_41 dX6_trader_43 dX6_trader_46 htab (Nat.le_of_ble_eq_true rfl) (Nat.le_of_ble_eq_true rfl) (Nat.le_of_ble_eq_true rfl) (Nat.le_of_ble_eq_true rfl) hlocks (Nat.le_of_ble_eq_true rfl) (Nat.le_of_ble_eq_true rfl) hf
    · have hf := zif_f hf h9
      exact z_throw (own := RX6) (cls := "java/lang/IllegalArgumentException") (text := "a kind is 0 to 4") (names := ["java/lang/RuntimeException", "java/lang/Exception"]) (ik := 38) (is := 96) (ic := 42) (k := 2) hx hb hst hown rfl rfl w0 w1 (hG.2.2.2.2.2.2.2.1 6 (RX6, 96, "a kind is 0 to 4") rfl) (z_hat (ws := wsX6_trader) hts (by decide +kernel) (by decide +kernel) (hG.2.2.2.2.2.2.2.2.2.1 _ (by decide +kernel)) hG.2.2.2.2.2.2.2.2.2.2.2.2) (by decide +kernel) hG hC hl.1 hml dX6_trader_16 dX6_trader_19 dX6_trader_20 dX6_trader_22 dX6_trader_25 htab (Nat.le_of_ble_eq_true rfl) (Nat.le_of_ble_eq_true rfl) (Nat.le_of_ble_eq_true rfl) (Nat.le_of_ble_eq_true rfl) hlocks (Nat.le_of_ble_eq_true rfl) (Nat.le_of_ble_eq_true rfl) hf
