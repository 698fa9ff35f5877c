theorem start_all : S_start zs0 zs0 8100 := by
  intro ms mo ou K1 L1 c1 K2 L2 r2 _ hP1 hmo hP2 hou
  obtain ⟨ra, h0⟩ := start_0 ms mo ou K1 L1 c1 K2 L2 r2 hP1 hmo hP2 hou
  have z := Nat.le_refl 8100
  exact ⟨IN ms mo ou ra, fun n K L c r h => ⟨h.1, h.2.1, h.2.2.1⟩, IN_1, h0, s_0 z, s_1 z, s_2 z, s_3 z, s_4 z, s_5 z, s_6 z, s_7 z, s_8 z, s_9 z, s_10 z, s_11 z, s_12 z, s_13 z, s_14 z, s_15 z, s_16 z, s_17 z, s_18 z, s_19 z, s_20 z, s_21 z, s_22 z, s_23 z, s_24 z, s_25 z, s_26 z, s_27 z, s_28 z, s_29 z⟩
theorem whole_start {p : Program} {e : Env} {s : State} {m : MethodId} {below : List Frame} {meth : Method} {cd : Code} (l : Launch) (hflags : l.flags = flags0) {b L : Nat} {xs : Nat → Int32} (hL : L ≤ 2560) (C0 : lw_At p s m meth cd b L xs) : W p l e room_1 s m #[Value.ref b] below meth cd s.heap [] 0 0 (lw_Z below #[Value.ref b] s) (entryFrame m ([Value.ref b] : List Value).toArray 8) := whole_start_open zs0 zs0 8100 start_all l hflags hL C0
