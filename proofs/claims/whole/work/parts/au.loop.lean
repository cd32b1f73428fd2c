/-! the law's loop -/
section LROWS
variable {g : GC} {p : Program} {e : Env} {s : State} {m : MethodId} {below : List Frame} {meth : Method} {c : Code} {b L : Nat} {xs : Nat → Int32}
set_option maxHeartbeats 4000000 in
theorem LG_sw {sh : SH} {S : SS} {n k u r : Nat} {i q : Int} (X : LX g p s m meth c b L xs) (hi : 1 ≤ i ∧ i + 5 < L) (hI : INV q n sh S) (hcs : k + 2 ≤ 600000 ∧ u + 36 ≤ 7302250) (hr : r < 64) (K : LK g p e s m below meth c b i q k u) : LG g p e s m below meth c b 43 (lsL g b i) [.int (iI (r : Int))] (hp g sh S) n k u := by
  by_cases cD : r < 36
  · obtain ⟨⟨F, P, V, T, H, cc⟩, hI⟩ := hI
    have cs : r = 0 ∨ r = 1 ∨ r = 2 ∨ r = 3 ∨ r = 4 ∨ r = 5 ∨ r = 6 ∨ r = 7 ∨ r = 8 ∨ r = 9 ∨ r = 10 ∨ r = 11 ∨ r = 12 ∨ r = 13 ∨ r = 14 ∨ r = 15 ∨ r = 16 ∨ r = 17 ∨ r = 18 ∨ r = 19 ∨ r = 20 ∨ r = 21 ∨ r = 22 ∨ r = 23 ∨ r = 24 ∨ r = 25 ∨ r = 26 ∨ r = 27 ∨ r = 28 ∨ r = 29 ∨ r = 30 ∨ r = 31 ∨ r = 32 ∨ r = 33 ∨ r = 34 ∨ r = 35 := by omega
    rcases cs with h | h | h | h | h | h | h | h | h | h | h | h | h | h | h | h | h | h | h | h | h | h | h | h | h | h | h | h | h | h | h | h | h | h | h | h <;> subst h
    · exact LG_tin 0 200 (off := 157) X dL_law_43 (by decide) (by decide) (by decide) rfl (by decide) (cs_put X hi hI hcs K)
    · exact LG_tin 1 243 (off := 200) X dL_law_43 (by decide) (by decide) (by decide) rfl (by decide) (cs_at X hi hI hcs K)
    · exact LG_tin 2 276 (off := 233) X dL_law_43 (by decide) (by decide) (by decide) rfl (by decide) (cs_clear X hi hI hcs K)
    · exact LG_tin 3 299 (off := 256) X dL_law_43 (by decide) (by decide) (by decide) rfl (by decide) (cs_sum X hi hI hcs K)
    · exact LG_tin 4 352 (off := 309) X dL_law_43 (by decide) (by decide) (by decide) rfl (by decide) (cs_way X hi hI hcs K)
    · exact LG_tin 5 385 (off := 342) X dL_law_43 (by decide) (by decide) (by decide) rfl (by decide) (cs_times X hi hI hcs K)
    · exact LG_tin 6 438 (off := 395) X dL_law_43 (by decide) (by decide) (by decide) rfl (by decide) (cs_cost X hi hI hcs K)
    · exact LG_tin 7 481 (off := 438) X dL_law_43 (by decide) (by decide) (by decide) rfl (by decide) (cs_plan X hi hI hcs K)
    · exact LG_tin 8 514 (off := 471) X dL_law_43 (by decide) (by decide) (by decide) rfl (by decide) (cs_planned X hi hI hcs K)
    · exact LG_tin 9 557 (off := 514) X dL_law_43 (by decide) (by decide) (by decide) rfl (by decide) (cs_feed X hi hI hcs K)
    · exact LG_tin 10 620 (off := 577) X dL_law_43 (by decide) (by decide) (by decide) rfl (by decide) (cs_text X hi hI hcs K)
    · exact LG_tin 11 633 (off := 590) X dL_law_43 (by decide) (by decide) (by decide) rfl (by decide) (cs_force X hi hI hcs K)
    · exact LG_tin 12 656 (off := 613) X dL_law_43 (by decide) (by decide) (by decide) rfl (by decide) (cs_says X hi hI hcs K)
    · exact LG_tin 13 700 (off := 657) X dL_law_43 (by decide) (by decide) (by decide) rfl (by decide) (cs_divide X hi hI hcs K)
    · exact LG_tin 14 769 (off := 726) X dL_law_43 (by decide) (by decide) (by decide) rfl (by decide) (cs_gcd X hi hI hcs K)
    · exact LG_tin 15 812 (off := 769) X dL_law_43 (by decide) (by decide) (by decide) rfl (by decide) (cs_cofactor X hi hI hcs K)
    · exact LG_tin 16 855 (off := 812) X dL_law_43 (by decide) (by decide) (by decide) rfl (by decide) (cs_compose X hi hI hcs K)
    · exact LG_tin 17 898 (off := 855) X dL_law_43 (by decide) (by decide) (by decide) rfl (by decide) (cs_move X hi hI hcs K)
    · exact LG_tin 18 941 (off := 898) X dL_law_43 (by decide) (by decide) (by decide) rfl (by decide) (cs_root X hi hI hcs K)
    · exact LG_tin 19 974 (off := 931) X dL_law_43 (by decide) (by decide) (by decide) rfl (by decide) (cs_order X hi hI hcs K)
    · exact LG_tin 20 1007 (off := 964) X dL_law_43 (by decide) (by decide) (by decide) rfl (by decide) (cs_place X hi hI hcs K)
    · exact LG_tin 21 1030 (off := 987) X dL_law_43 (by decide) (by decide) (by decide) rfl (by decide) (cs_leave X hi hI hcs K)
    · exact LG_tin 22 1043 (off := 1000) X dL_law_43 (by decide) (by decide) (by decide) rfl (by decide) (cs_see X hi hI hcs K)
    · exact LG_tin 23 1076 (off := 1033) X dL_law_43 (by decide) (by decide) (by decide) rfl (by decide) (cs_told X hi hI hcs K)
    · exact LG_tin 24 1109 (off := 1066) X dL_law_43 (by decide) (by decide) (by decide) rfl (by decide) (cs_value X hi hI hcs K)
    · exact LG_tin 25 1142 (off := 1099) X dL_law_43 (by decide) (by decide) (by decide) rfl (by decide) (cs_look X hi hI hcs K)
    · exact LG_tin 26 1165 (off := 1122) X dL_law_43 (by decide) (by decide) (by decide) rfl (by decide) (cs_fill X hi hI hcs K)
    · exact LG_tin 27 1188 (off := 1145) X dL_law_43 (by decide) (by decide) (by decide) rfl (by decide) (cs_right X hi hI hcs K)
    · exact LG_tin 28 1221 (off := 1178) X dL_law_43 (by decide) (by decide) (by decide) rfl (by decide) (cs_relation X hi hI hcs K)
    · exact LG_tin 29 1244 (off := 1201) X dL_law_43 (by decide) (by decide) (by decide) rfl (by decide) (cs_power X hi hI hcs K)
    · exact LG_tin 30 1267 (off := 1224) X dL_law_43 (by decide) (by decide) (by decide) rfl (by decide) (cs_count X hi hI hcs K)
    · exact LG_tin 31 1290 (off := 1247) X dL_law_43 (by decide) (by decide) (by decide) rfl (by decide) (cs_counted X hi hI hcs K)
    · exact LG_tin 32 1304 (off := 1261) X dL_law_43 (by decide) (by decide) (by decide) rfl (by decide) (cs_sheet X hi hI hcs K)
    · exact LG_tin 33 1347 (off := 1304) X dL_law_43 (by decide) (by decide) (by decide) rfl (by decide) (cs_cell X hi hI hcs K)
    · exact LG_tin 34 1390 (off := 1347) X dL_law_43 (by decide) (by decide) (by decide) rfl (by decide) (cs_lay X hi hI hcs K)
    · exact LG_tin 35 1453 (off := 1410) X dL_law_43 (by decide) (by decide) (by decide) rfl (by decide) (cs_taken X hi hI hcs K)
  · refine LG_tout 1486 X dL_law_43 (by omega) (Or.inr (by omega)) (by decide) ?_
    exact K sh S n k u (by omega) hI
theorem LG_loop {q : Int} (X : LX g p s m meth c b L xs) : ∀ (t : Nat) (i : Int) (sh : SH) (S : SS) (n k u : Nat), 1 ≤ i → i ≤ 10000 → (L : Int) < i + 6 * t + 6 → k + 2 * t ≤ 500000 → u + 36 * t ≤ 7000000 → INV q n sh S → LG g p e s m below meth c b 28 (lsL g b i) [] (hp g sh S) n k u := by
  intro t
  induction t with
  | zero =>
    intro i sh S n k u i0 i1 hL hk hu hI
    have hL3 := X.2.2.2.2.2.2.2.2.2.2.1
    refine LG_iload X dL_law_28 rfl ?_
    refine LG_aload X dL_law_29 rfl ?_
    refine LG_slen X dL_law_30 ?_
    refine LG_bipush X dL_law_31 rfl ?_
    refine LG_isub X dL_law_33 ?_
    refine LG_icmp_gt 1492 X dL_law_34 (by decide) (by omega) (fun c0 => ?_) (fun c0 => ?_)
    · refine LG_iconst X dL_law_1492 ?_
      exact LG_end X dL_law_1493 (by omega)
    · exact absurd (show (L : Int) - 6 < i by omega) c0
  | succ t ih =>
    intro i sh S n k u i0 i1 hL hk hu hI
    have hL3 := X.2.2.2.2.2.2.2.2.2.2.1
    refine LG_iload X dL_law_28 rfl ?_
    refine LG_aload X dL_law_29 rfl ?_
    refine LG_slen X dL_law_30 ?_
    refine LG_bipush X dL_law_31 rfl ?_
    refine LG_isub X dL_law_33 ?_
    refine LG_icmp_gt 1492 X dL_law_34 (by decide) (by omega) (fun c0 => ?_) (fun c0 => ?_)
    · refine LG_iconst X dL_law_1492 ?_
      exact LG_end X dL_law_1493 (by omega)
    · refine LG_aload X dL_law_37 rfl ?_
      refine LG_iload X dL_law_38 rfl ?_
      refine LG_sld X dL_law_39 (by omega) ?_
      refine LG_bipush X dL_law_40 rfl ?_
      obtain ⟨r, hr, er⟩ := pk_andE (iI (zs xs i)) (m := iI 63) 6 (by decide)
      rw [← iI_nI] at er
      refine LG_iand X dL_law_42 er ?_
      refine LG_sw X (by omega) hI (by omega) hr (fun sh' S' n' k' u' hb hI' => ?_)
      refine LG_iinc X dL_law_1486 rfl (by decide) rfl ?_
      refine LG_goto 28 X dL_law_1489 (by decide) ?_
      exact ih (i + 6) sh' S' n' k' u' (by omega) (by omega) (by omega) (by omega) (by omega) hI'
set_option maxHeartbeats 4000000 in
theorem LG_walk (X : LX g p s m meth c b L xs) : LG g p e s m below meth c b 0 [(0, .ref b)] [] (hp g (shT 0) Z0) 0 0 0 := by
  have hL3 := X.2.2.2.2.2.2.2.2.2.2.1
  refine LG_new (ci := 9) X dL_law_0 gcX9 clL_7 inX9 niX9 (nf_X9 (g := g) (Z0_fr 0)) (by decide) ?_
  rw [hp_new (s := .inl 9) (e := gO 9 (fvs g Z0 9 0)) rfl, shT_s rfl]
  refine LG_dup X dL_law_3 rfl ?_
  refine LG_aload X dL_law_4 rfl ?_
  refine LG_iconst X dL_law_5 ?_
  refine LG_cell (rest := [gr g 0, gr g 0]) X dL_law_6 (Nat.le_of_ble_eq_true rfl) (by decide) ?_
  refine LG_callI (As := [.int (iI (cz xs L))]) (rest := [gr g 0]) (np := 1) (b2 := 0) X dL_law_9 kX9_init lkL_15 rfl rfl (Nat.le_of_ble_eq_true rfl) ⟨Nat.le_of_ble_eq_true rfl, Nat.le_of_ble_eq_true rfl⟩ (mc2 := 95) (ms2 := 4184) (d2 := 47) (by decide) ?_
  refine c_X9_init cz_bd (fun S hI hF => ?_)
  show LG g p e s m below meth c b 12 [(0, .ref b)] [gr g 0] (hp g (shT 96) S) 96 96 4199
  refine LG_astore X dL_law_12 (by decide) rfl ?_
  refine LG_new (ci := 10) X dL_law_13 gcX10 clL_18 inX10 niX10 (nf_X10 (g := g) hF) (by decide) ?_
  rw [hp_new (s := .inl 10) (e := gO 10 (fvs g S 10 96)) rfl, shT_s rfl]
  refine LG_dup X dL_law_16 rfl ?_
  refine LG_aload X dL_law_17 rfl ?_
  refine LG_iconst X dL_law_18 ?_
  refine LG_cell (rest := [gr g 96, gr g 96]) X dL_law_19 (Nat.le_of_ble_eq_true rfl) (by decide) ?_
  refine LG_callI (As := [.int (iI (cz xs L))]) (rest := [gr g 96]) (np := 1) (b2 := 96) X dL_law_22 kX10_init lkL_20 rfl rfl (Nat.le_of_ble_eq_true rfl) ⟨Nat.le_of_ble_eq_true rfl, Nat.le_of_ble_eq_true rfl⟩ (mc2 := 16) (ms2 := 2980) (d2 := 2) (by decide) ?_
  refine c_X10_init cz_bd (Fr_le hF (by decide)) ?_
  show LG g p e s m below meth c b 25 [(1, gr g 0), (0, .ref b)] [gr g 96] (hp g (shT 113) (st10 (cz xs L) S)) 113 113 7218
  refine LG_astore X dL_law_25 (by decide) rfl ?_
  refine LG_iconst X dL_law_26 ?_
  refine LG_istore X dL_law_27 (by decide) rfl ?_
  exact LG_loop X 600 1 _ _ _ _ _ (by decide) (by decide) (by omega) (by decide) (by decide) (INV_0 hI hF)
end LROWS
theorem whole_start {p : Program} {e : Env} {s : State} {m : MethodId} {below : List Frame} {meth : Method} {c : Code} (l : Launch) (hflags : l.flags = flags0) {b L : Nat} {xs : Nat → Int32} (hL : L ≤ 3073) (C0 : lw_At p s m meth c b L xs) : W p l e room_1 s m #[Value.ref b] below meth c s.heap [] 0 0 (lw_Z below #[Value.ref b] s) (entryFrame m ([Value.ref b] : List Value).toArray 4) := by
  obtain ⟨hx, hc, hr, hml, hown, hts, hX, hb, hlk, hgv⟩ := C0
  obtain ⟨g, e1, e2, e3, hK⟩ := gk_ex (l := l) hts hgv
  have X : LX g p s m meth c b L xs := ⟨hx, hc, hml, hr, hlk, fun w hw => hts w (List.mem_filter.mp hw).1, hown, hK, by rw [e3]; exact hX, by rw [e2]; exact hb, hL, e2⟩
  have hl := lv_entry [.ref b] (n := 4) (Nat.le_of_ble_eq_true rfl)
  rw [lg_entry_eq]
  generalize (lg_sl [Value.ref b] ++ List.replicate (4 - (lg_sl [Value.ref b]).length) Slot.unset).toArray = la at hl ⊢
  have hl : lv_has la 4 [(0, .ref b)] := hl
  have hR : Rp g (hp g (shT 0) Z0) 0 s.heap := by
    refine ⟨by rw [e2]; rfl, fun k E hk => ?_, fun q _ => by rw [e3]⟩
    have hz : hp g (shT 0) Z0 k = none := by
      unfold hp shT
      rw [if_neg (Nat.not_lt_zero k)]
      rfl
    rw [hz] at hk
    cases hk
  subst e1
  exact LG_walk X s.heap [] la hR (fun q hq => absurd hq List.not_mem_nil) hl
