/-! a WAY's constructor -/
def wyT (S : SS) (w : Nat) (kd cut : Int) : SS := setF (setF (setP S w 2 (some (w + 1))) w 0 kd) w 1 cut
theorem wyT_W {sh : SH} {S : SS} {w : Nat} {kd cut : Int} {X : Int → Int} (hs : sh w = some (.inl 8)) : WyW (sup sh (w + 1) (.inr (1, 33))) (putA (wyT S w kd cut) (w + 1) X) w kd cut X := by
  refine ⟨(sup_ne (by omega)).trans hs, sup_at, ?_, ?_, ?_, putA_at⟩
  · show (setP S w 2 (some (w + 1))).2.2 w 2 = _
    exact setP_at
  · show (setF (setF (setP S w 2 (some (w + 1))) w 0 kd) w 1 cut).1 w 0 = kd
    rw [setF_ne (by omega), setF_at]
  · show (setF (setF (setP S w 2 (some (w + 1))) w 0 kd) w 1 cut).1 w 1 = cut
    exact setF_at
set_option maxRecDepth 100000 in
set_option maxHeartbeats 4000000 in
theorem l_X8_init {g : GC} {sh : SH} {S : SS} {w : Nat} {kd cut : Int} {Q : Option Value → GA → Nat → Prop} (hs : sh w = some (.inl 8)) (hk : 0 ≤ kd ∧ kd ≤ 5) (hc : 1 ≤ cut ∧ cut ≤ 16) (hq : Q none (hp g (sup sh (w + 1) (.inr (1, 33))) (putA (wyT S w kd cut) (w + 1) (wtb kd cut 32))) (w + 2)) : ∀ (j t : Nat), t + j = 32 → G g mX8_init 4 1 33 24 [(3, .int (iI ((t : Int) + 1))), (0, gr g w), (1, .int (iI kd)), (2, .int (iI cut))] [] (hp g (sup sh (w + 1) (.inr (1, 33))) (putA (wyT S w kd cut) (w + 1) (wtb kd cut t))) (w + 2) 1 33 Q := by
  intro j
  induction j with
  | zero =>
    intro t ht
    obtain rfl : t = 32 := ht
    refine G_iload_n (pc := 24) dX8_init_24 rfl ?_
    refine G_bipush (pc := 25) dX8_init_25 rfl ?_
    refine G_icmp_gt_t (pc := 27) 47 dX8_init_27 rfl (by omega) (by omega) ?_
    refine G_vret (pc := 47) dX8_init_47 rfl (by decide) ?_
    exact hq
  | succ j ih =>
    intro t ht
    have hn := ih (t + 1) (by omega)
    have hW := wyT_W (S := S) (kd := kd) (cut := cut) (X := wtb kd cut t) hs
    have hW' := hW
    obtain ⟨h8, ha, q2, e0, e1, eX⟩ := hW'
    have ev : setA (putA (wyT S w kd cut) (w + 1) (wtb kd cut t)) (w + 1) ((t : Int) + 1) (wpt kd cut (wtb kd cut t) ((t : Int) + 1)) = putA (wyT S w kd cut) (w + 1) (wtb kd cut (t + 1)) := setA_putA
    refine G_iload_n (pc := 24) dX8_init_24 rfl ?_
    refine G_bipush (pc := 25) dX8_init_25 rfl ?_
    refine G_icmp_gt_f (pc := 27) 47 dX8_init_27 rfl (by omega) (by omega) ?_
    refine S_aload_n (pc := 30) dX8_init_30 rfl ?_
    refine S_getR (pc := 31) dX8_init_31 fX8_9 (by assumption) rfl (by assumption) ?_
    refine G_iload_n (pc := 34) dX8_init_34 rfl ?_
    refine S_aload_n (pc := 35) dX8_init_35 rfl ?_
    refine G_iload_n (pc := 36) dX8_init_36 rfl ?_
    refine S_callV (pc := 37) (ci := 8) (d2 := 3) (mc2 := 0) (ms2 := 0) (As := [_]) dX8_init_37 kX8_parted lkX8_22 (by assumption) rfl rfl rfl (Nat.le_of_ble_eq_true rfl) ⟨by decide, by decide⟩ (by decide) ?_
    refine c_X8_parted hW hk hc (by omega) ?_
    show G _ _ _ _ _ _ _ _ _ _ _ _ _
    refine S_iast (pc := 40) dX8_init_40 (by assumption) (by omega) ?_
    rw [ev]
    refine G_iinc (pc := 41) (ls' := [(3, _), (0, _), (1, _), (2, _)]) dX8_init_41 rfl (by decide) rfl ?_
    refine G_goto (pc := 44) 24 dX8_init_44 rfl ?_
    exact hn
set_option maxRecDepth 100000 in
set_option maxHeartbeats 4000000 in
theorem c_X8_init {g : GC} {sh : SH} {S : SS} {w : Nat} {kd cut : Int} {Q : Option Value → GA → Nat → Prop} (hs : sh w = some (.inl 8)) (hF : Fr S (w + 1)) (hk : 0 ≤ kd ∧ kd ≤ 5) (hc : 1 ≤ cut ∧ cut ≤ 16) (hq : Q none (hp g (sup sh (w + 1) (.inr (1, 33))) (putA (wyT S w kd cut) (w + 1) (wtb kd cut 32))) (w + 2)) : GCall g mX8_init 4 1 33 [gr g w, .int (iI kd), .int (iI cut)] (hp g sh S) (w + 1) Q := by
  have hl := l_X8_init (g := g) (S := S) hs hk hc hq 32 0 rfl
  have e0 : putA (wyT S w kd cut) (w + 1) (wtb kd cut 0) = wyT S w kd cut := by
    rw [show wtb kd cut 0 = (wyT S w kd cut).2.1 (w + 1) from ((hF (w + 1) (Nat.le_refl _)).2.1).symm]
    exact putA_same
  rw [e0] at hl
  have hs1 : sup sh (w + 1) (.inr (1, 33)) w = some (.inl 8) := (sup_ne (by omega)).trans hs
  refine GCall.of (by decide) (Nat.le_of_ble_eq_true rfl) (ls := [(0, _), (1, _), (2, _)]) rfl ?_
  refine S_aload_n (pc := 0) dX8_init_0 rfl ?_
  refine G_objInit (pc := 1) dX8_init_1 lkX8_3 oi_in oi_co rfl (Nat.le_of_ble_eq_true rfl) (by decide) ?_
  refine S_aload_n (pc := 4) dX8_init_4 rfl ?_
  refine G_bipush (pc := 5) dX8_init_5 rfl ?_
  refine S_newI (pc := 7) (N := 33) dX8_init_7 ar_int rfl (by omega) (by decide) hF ?_
  refine S_putRF (pc := 9) dX8_init_9 fX8_9 rfl (by assumption) rfl ⟨rfl, rfl⟩ ?_
  refine S_aload_n (pc := 12) dX8_init_12 rfl ?_
  refine G_iload_n (pc := 13) dX8_init_13 rfl ?_
  refine S_putIF (pc := 14) dX8_init_14 fX8_15 rfl (by assumption) rfl ⟨rfl, rfl⟩ ?_
  refine S_aload_n (pc := 17) dX8_init_17 rfl ?_
  refine G_iload_n (pc := 18) dX8_init_18 rfl ?_
  refine S_putIF (pc := 19) dX8_init_19 fX8_19 rfl (by assumption) rfl ⟨rfl, rfl⟩ ?_
  refine G_iconst (pc := 22) dX8_init_22 ?_
  refine G_istore_n (pc := 23) (ls' := [(3, _), (0, _), (1, _), (2, _)]) dX8_init_23 (by decide) rfl ?_
  exact hl
