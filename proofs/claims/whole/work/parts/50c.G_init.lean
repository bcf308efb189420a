set_option maxHeartbeats 4000000 in
set_option maxRecDepth 100000 in
theorem m_G_init (l : Launch) (D : va_G) (cs : ClassId × ClassId × ClassId × ClassId) (g : Nat) : MI l y_G_init k_G_init { frames := 1, cells := 1, slots := 400, locals := 24 } D cs [.ref g] [(g, .inr (2, [.null, .int (nI (0)), .int (nI (0))]))] (fun w1 => ∃ gr : Nat, w1 = [(g, .inr (2, [.ref gr, .int (nI (0)), .int (nI (0))])), (gr, .inl (cs.1, 400, .inl (fun j => nI ((fun _ => 0) j))))]) 1 400 := by
  refine MI.mk (own := RG) (by decide) rfl rfl (Nat.le_of_ble_eq_true rfl) ?_
  intro p e s m below meth c A C aoa hin hr hlk
  refine g_lv (lv' := [(0, .ref g)]) [0] rfl ?_
  refine g_aload_n C d_G_init_0 0 rfl rfl ?_
  refine g_oinit C tw_55 tw_19 tw_20 ⟨(Nat.le_of_ble_eq_true rfl), (Nat.le_of_ble_eq_true rfl)⟩ d_G_init_1 ?_
  refine g_aload_n C d_G_init_4 0 rfl rfl ?_
  refine g_sipush C (v := nI 400) d_G_init_5 rfl ?_
  refine g_newarr C (atype := .int) (ty := .int) (X := [(g, .inr (2, [.null, .int (nI (0)), .int (nI (0))]))]) (T := []) (w2 := fun q => [(g, .inr (2, [.null, .int (nI (0)), .int (nI (0))])), (q, .inl (cs.1, 400, .inl (fun j => nI ((fun _ => 0) j))))]) (N := 400) (a0 := (400, .inl (fun j => nI ((fun _ => 0) j)))) tw_48 rfl 0 rfl ra_int (fun c9 => rfl) (by decide) (by decide) (Nat.le_of_ble_eq_true rfl) (Nat.le_of_ble_eq_true rfl) rfl (fun q => rfl) d_G_init_8 (fun gr => ?_)
  refine g_putF C hin (T := FG) (N := 3) (ws' := [(g, .inr (2, [.ref gr, .int (nI (0)), .int (nI (0))])), (gr, .inl (cs.1, 400, .inl (fun j => nI ((fun _ => 0) j))))]) 0 0 inG tyG okG nmG rfl rfl (by decide) tw_56 rfl rfl rfl rfl rfl rfl (Nat.le_of_ble_eq_true rfl) rfl d_G_init_10 ?_
  refine g_aload_n C d_G_init_13 0 rfl rfl ?_
  refine g_iconst C (v := nI 0) d_G_init_14 rfl ?_
  refine g_put C (T := FG) (N := 3) (ws' := [(g, .inr (2, [.ref gr, .int (nI (0)), .int (nI (0))])), (gr, .inl (cs.1, 400, .inl (fun j => nI ((fun _ => 0) j))))]) 0 1 inG tyG okG nmG rfl rfl (by decide) tw_57 rfl rfl rfl rfl rfl (Nat.le_of_ble_eq_true rfl) rfl d_G_init_15 ?_
  refine g_aload_n C d_G_init_18 0 rfl rfl ?_
  refine g_iconst C (v := nI 0) d_G_init_19 rfl ?_
  refine g_put C (T := FG) (N := 3) (ws' := [(g, .inr (2, [.ref gr, .int (nI (0)), .int (nI (0))])), (gr, .inl (cs.1, 400, .inl (fun j => nI ((fun _ => 0) j))))]) 0 2 inG tyG okG nmG rfl rfl (by decide) tw_58 rfl rfl rfl rfl rfl (Nat.le_of_ble_eq_true rfl) rfl d_G_init_20 ?_
  exact g_xret C hr hlk ⟨gr, rfl⟩ (Nat.le_of_ble_eq_true rfl) (Nat.le_of_ble_eq_true rfl) d_G_init_23
