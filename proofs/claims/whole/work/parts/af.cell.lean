/-! the law's cell(script, 0) -/
def cz (xs : Nat → Int32) (L : Nat) : Int := if 0 < L then zs xs 0 else 0
theorem cz_bd {xs : Nat → Int32} {L : Nat} : -2147483648 ≤ cz xs L ∧ cz xs L ≤ 2147483647 := by
  unfold cz
  by_cases c : 0 < L
  · rw [if_pos c]; exact zs_bd
  · rw [if_neg c]; decide
set_option maxHeartbeats 4000000 in
theorem c_L_cell {g : GC} {b L : Nat} {xs : Nat → Int32} {h : GA} {n : Nat} (hb : b < gB g) (hLb : L ≤ 3073) : Met (gL g) yL_cell (gws mL_cell) (grm 1 0 0) (va_Pc [.ref b, .int (iI 0)] (fun U => Rp g h n U.heap ∧ GK g U ∧ va_X b L xs U (gH0 g))) (gQ g (fun v h' n' => v = some (.int (iI (cz xs L))) ∧ h' = h ∧ n' = n)) 0 0 (fun q => gB g ≤ q) := by
  refine Met.ofW (cc := cL_cell) (maxL := 2) (ret := some .int) (ws' := W0) (by decide) rfl ?_
  intro p e s m args' below meth c s₁ B hml hv
  obtain ⟨rfl, hR, hK, hX⟩ := hv
  have hx := B.exec
  have hbb := B.bytes
  have hr := B.returns
  have hlocks := B.notSynchronized
  have hl := lv_entry [.ref b, .int (iI 0)] (n := 2) (Nat.le_of_ble_eq_true rfl)
  rw [lg_entry_eq]
  generalize (lg_sl [Value.ref b, Value.int (iI 0)] ++ List.replicate (2 - (lg_sl [Value.ref b, Value.int (iI 0)]).length) Slot.unset).toArray = la at hl ⊢
  have hl : lv_has la 2 [(0, .ref b), (1, .int (iI 0))] := hl
  have hsz := hK.2.2.2.2.2
  have hbl : b < (gH0 g).size := by omega
  have hbA : ¬ (fun q => gB g ≤ q) b := by show ¬ gB g ≤ b; omega
  have hS : va_S (fun q => gB g ≤ q) (gH0 g) s.heap [] := ⟨by rw [← hsz, hR.1]; omega, fun q h1 h2 => hR.2.2 q (by rw [hsz]; exact h1), fun q hq => absurd hq List.not_mem_nil⟩
  refine lv_iload_n hx hbb dL_cell_0 rfl (lv_at hl 1 rfl) ?_
  refine lv_aload_n hx hbb dL_cell_1 rfl (lv_at hl 0 rfl) ?_
  refine va_slen hx hbb hX hbl hbA hS dL_cell_2 ?_
  refine lv_icmp_ge (tgt := 12) hx hbb dL_cell_3 (by decide) (fun q => ?_) (fun q => ?_)
  · have q' : iI (L : Int) ≤ iI 0 := q
    have hL0 : ¬ 0 < L := fun z => by
      have := (iI_le (a := (L : Int)) (b := 0) (by omega)).mp q'
      omega
    refine lv_iconst hx hbb dL_cell_12 rfl ?_
    refine W.iret hx hbb hr (fun t ht hW => ⟨_, h, n, rfl, by rw [ht]; exact hR, ?_, rfl, rfl⟩) (fun q hq => absurd hq List.not_mem_nil) dL_cell_13 hlocks
    unfold cz
    rw [if_neg hL0]; rfl
  · have hL0 : 0 < L := by
      refine Nat.pos_of_ne_zero (fun z => q ?_)
      subst z
      show iI 0 ≤ iI 0
      exact (iI_le (a := 0) (b := 0) (by decide)).mpr (Int.le_refl _)
    refine lv_aload_n hx hbb dL_cell_6 rfl (lv_at hl 0 rfl) ?_
    refine lv_iload_n hx hbb dL_cell_7 rfl (lv_at hl 1 rfl) ?_
    refine va_sld hx hbb hX hbl hbA hS (in_vp (N := L) (by omega)) dL_cell_8 ?_
    refine lv_goto (tgt := 13) hx hbb dL_cell_9 (by decide) ?_
    refine W.iret hx hbb hr (fun t ht hW => ⟨_, h, n, rfl, by rw [ht]; exact hR, ?_, rfl, rfl⟩) (fun q hq => absurd hq List.not_mem_nil) dL_cell_13 hlocks
    unfold cz
    rw [if_pos hL0]
    have e1 : xs (iI 0).toNatClampNeg = iI (zs xs 0) := by
      rw [iI_clamp (by decide)]
      exact (iI_of _).symm
    rw [e1]
section LROWS
variable {g : GC} {p : Program} {e : Env} {s : State} {m : MethodId} {below : List Frame} {meth : Method} {c : Code} {b L : Nat} {xs : Nat → Int32} {pc : Nat} {ls : List (Nat × Value)} {st : List Value} {h : GA} {n k u : Nat}
theorem LG_cell {rest : List Value} (X : LX g p s m meth c b L xs) (hd : decode cL_law pc = .ok (.invokestatic 9, 3)) (hrest : (rest.map fun v => v.category).sum ≤ 8) (hcs : k + 0 ≤ 600000 ∧ u + 0 ≤ 7302250)
    (kk : LG g p e s m below meth c b (pc + 3) ls (.int (iI (cz xs L)) :: rest) h n k u) : LG g p e s m below meth c b pc ls (.int (iI 0) :: .ref b :: rest) h n k u := by
  intro H locs la hR hL hl
  have hts := X.2.2.2.2.2.1
  have hK := X.2.2.2.2.2.2.2.1
  have hXX := X.2.2.2.2.2.2.2.2.1
  have hr := va_runS (p := p) (l := gL g) (e := e) (R := room_1) (s := s) (m := m) (args := #[Value.ref b]) (below := below) (meth := meth) (c := c) (H := H) (locs := locs) (cells := k) (slots := u) (g := F0 m pc la (.int (iI 0) :: .ref b :: rest)) (rest := rest) (Ts := W0) (As := [.ref b, .int (iI 0)]) (own := RL) (nL := 4) ⟨X.1, X.2.1, X.2.2.1, X.2.2.2.2.2.2.1, hts⟩ (c_L_cell (g := g) (b := b) (L := L) (xs := xs) (h := h) (n := n) X.2.2.2.2.2.2.2.2.2.1 X.2.2.2.2.2.2.2.2.2.2.1) ⟨callB_of 2 hts (gws_good kL_cell.1) rfl rfl rfl (hts _ kL_cell.2.1) (hts _ lkL_9.1) kL_cell.2.2 (LG_room (y2 := mL_cell) ⟨by decide, by decide⟩), hts _ lkL_9.2⟩ ⟨fun a U f mk q => ⟨q.1, q.2.1, q.2.2.1.calling, va_X.moved (u := U) (U := U.calling f mk a) (Vm.Alike.refl U.vm) q.2.2.2⟩, fun U hU hW => ⟨rfl, by rw [hU]; exact hR, hK.warm hW (by rw [hU, hR.1]; exact Nat.le_add_right _ _), va_X.moved hW.alike hXX⟩⟩ rfl rfl (hl.1) rfl (lv_room hrest) hd hcs
  refine LG_run (mc2 := 0) (ms2 := 0) (rest := rest) (a := #[Value.ref b, Value.int (iI 0)]) hL hl (fun T hT XX => ?_)
  obtain ⟨v, st₀, t, T', L', h0, X', hL', e1, e2, ⟨v', h', n', hv, hR', hq, e3, e4⟩, st'⟩ := hr T hT XX
  subst e3
  subst e4
  exact ⟨v, st₀, t, T', L', h0, X', hL', e1, e2, ⟨v', h', n', hv, hR', by rw [hq]; exact kk⟩, st'⟩
end LROWS
