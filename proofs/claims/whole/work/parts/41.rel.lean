/-! Places: the relation -/
theorem Alg_same {D : Nat → Prop} {p : Int} {sh : SH} {S S' : SS} (h : Same D S S') (hD : ∀ a : Nat, 12 ≤ a → a ≤ 29 → ¬ D a) (hA : Alg p sh S) : Alg p sh S' := by
  obtain ⟨a1, a2, a3, a4, a5, a6, a7, a8, a9, a10, a11, a12⟩ := hA
  exact ⟨a1, ⟨a2.1, by rw [h.1 12 0 (hD 12 (by decide) (by decide))]; exact a2.2⟩, a3, by rw [h.2.2 13 0 (hD 13 (by decide) (by decide))]; exact a4, by rw [h.2.2 13 1 (hD 13 (by decide) (by decide))]; exact a5, by rw [h.2.2 13 2 (hD 13 (by decide) (by decide))]; exact a6, by rw [h.2.2 13 3 (hD 13 (by decide) (by decide))]; exact a7, by rw [h.2.2 13 4 (hD 13 (by decide) (by decide))]; exact a8,
    Same_row h (hD 14 (by decide) (by decide)) (hD 15 (by decide) (by decide)) a9, Same_row h (hD 16 (by decide) (by decide)) (hD 17 (by decide) (by decide)) a10, Same_row h (hD 18 (by decide) (by decide)) (hD 19 (by decide) (by decide)) a11, Same_row h (hD 20 (by decide) (by decide)) (hD 21 (by decide) (by decide)) a12⟩
def Perm3 (a b c : Nat) : Prop := (a = 37 ∨ a = 39 ∨ a = 41) ∧ (b = 37 ∨ b = 39 ∨ b = 41) ∧ (c = 37 ∨ c = 39 ∨ c = 41) ∧ a ≠ b ∧ a ≠ c ∧ b ≠ c
def PlR (p : Int) (sh : SH) (S : SS) (a b c : Nat) : Prop := S.2.2 30 7 = some a ∧ S.2.2 30 8 = some b ∧ S.2.2 30 9 = some c ∧ Perm3 a b c ∧ Row p sh S a 64 ∧ Row p sh S b 64 ∧ Row p sh S c 64
def RelD (a : Nat) : Prop := a = 30 ∨ (37 ≤ a ∧ a ≤ 42)
theorem p3A {a b c x : Nat} (h : Perm3 a b c) (hx : x ≠ 37 ∧ x ≠ 39 ∧ x ≠ 41) : a ≠ x := by
  obtain ⟨h1, h2, h3⟩ := hx
  rcases h.1 with e | e | e <;> rw [e] <;> exact Ne.symm (by assumption)
theorem p3B {a b c x : Nat} (h : Perm3 a b c) (hx : x ≠ 37 ∧ x ≠ 39 ∧ x ≠ 41) : b ≠ x := by
  obtain ⟨h1, h2, h3⟩ := hx
  rcases h.2.1 with e | e | e <;> rw [e] <;> exact Ne.symm (by assumption)
theorem p3C {a b c x : Nat} (h : Perm3 a b c) (hx : x ≠ 37 ∧ x ≠ 39 ∧ x ≠ 41) : c ≠ x := by
  obtain ⟨h1, h2, h3⟩ := hx
  rcases h.2.2.1 with e | e | e <;> rw [e] <;> exact Ne.symm (by assumption)
theorem p3AB {a b c : Nat} (h : Perm3 a b c) : a ≠ b := h.2.2.2.1
theorem p3AC {a b c : Nat} (h : Perm3 a b c) : a ≠ c := h.2.2.2.2.1
theorem p3BC {a b c : Nat} (h : Perm3 a b c) : b ≠ c := h.2.2.2.2.2
theorem p3D {a b c : Nat} (h : Perm3 a b c) : (RelD a ∧ RelD (a + 1)) ∧ (RelD b ∧ RelD (b + 1)) ∧ (RelD c ∧ RelD (c + 1)) := by
  unfold RelD
  refine ⟨?_, ?_, ?_⟩
  · rcases h.1 with e | e | e <;> rw [e] <;> decide
  · rcases h.2.1 with e | e | e <;> rw [e] <;> decide
  · rcases h.2.2.1 with e | e | e <;> rw [e] <;> decide
theorem nRel {a : Nat} (h1 : a ≠ 30) (h2 : a < 37 ∨ 42 < a) : ¬ RelD a := by unfold RelD; omega
theorem PlW_put {p m : Int} {sh : SH} {S : SS} {a : Nat} {xs : Int → Int} (h : PlW p sh S m) (ha : a ≠ 30 ∧ a ≠ 33 ∧ a ≠ 35 ∧ a + 1 ≠ 31 ∧ a + 1 ≠ 32) : PlW p sh (rput S a xs 64) m := by
  obtain ⟨h30, p0, p1, p2, p3, p5, p6, h31, h32, hm, hmb, r31, r32, R33, R35⟩ := h
  refine ⟨h30, p0, p1, p2, p3, p5, p6, h31, h32, ?_, hmb, ?_, ?_, Row_ne R33 (Ne.symm ha.2.1), Row_ne R35 (Ne.symm ha.2.2.1)⟩
  · rw [rput_F (Or.inl (Ne.symm ha.1))]; exact hm
  · rw [rput_A (Ne.symm ha.2.2.2.1)]; exact r31
  · rw [rput_A (Ne.symm ha.2.2.2.2)]; exact r32
theorem PlW_setP {p m : Int} {sh : SH} {S : SS} {k : Int} {b : Option Nat} (h : PlW p sh S m) (hk : 7 ≤ k) : PlW p sh (setP S 30 k b) m := by
  obtain ⟨h30, p0, p1, p2, p3, p5, p6, h31, h32, hm, hmb, r31, r32, R33, R35⟩ := h
  refine ⟨h30, ?_, ?_, ?_, ?_, ?_, ?_, h31, h32, hm, hmb, r31, r32, Row_setP R33 (by decide), Row_setP R35 (by decide)⟩
  · rw [setP_ne (Or.inr (by omega))]; exact p0
  · rw [setP_ne (Or.inr (by omega))]; exact p1
  · rw [setP_ne (Or.inr (by omega))]; exact p2
  · rw [setP_ne (Or.inr (by omega))]; exact p3
  · rw [setP_ne (Or.inr (by omega))]; exact p5
  · rw [setP_ne (Or.inr (by omega))]; exact p6
theorem p3x {a x : Nat} (h : a = 37 ∨ a = 39 ∨ a = 41) : a ≠ 30 ∧ a ≠ 33 ∧ a ≠ 35 ∧ a + 1 ≠ 31 ∧ a + 1 ≠ 32 := by omega
/-- by how much the factors C miss value i -/
def lck (p : Int) (C vs : Int → Int) (m i : Int) : Int := csum (fun j => C j * itm vs m (i - j)) (plen C 64).toNat % p
set_option maxRecDepth 100000 in
set_option maxHeartbeats 4000000 in
theorem l_X2_lack {g : GC} {p m i : Int} {sh : SH} {S : SS} {n a b c : Nat} {Q : Option Value → GA → Nat → Prop} (hW : PlW p sh S m) (hR : PlR p sh S a b c) (hrs : IsRests p sh S 12) (hP : IsP p) (hi : 0 ≤ i ∧ i ≤ 100) (hq : Q (some (.int (iI (lck p (rv S a) (S.2.1 32) m i)))) (hp g sh S) n) : ∀ (k t : Nat), t + k = plen (rv S a) 64 → G g mX2_lack 3 0 0 5 [(4, .int (iI t)), (2, .long (iL (csum (fun j => rv S a j * itm (S.2.1 32) m (i - j)) t))), (0, gr g 30), (1, .int (iI i))] [] (hp g sh S) n 0 0 Q := by
  have hW' := hW
  obtain ⟨h30, p0, p1, p2, p3, p5, p6, h31, h32, hm, hmb, r31, r32, R33, R35⟩ := hW'
  obtain ⟨q7, q8, q9, hperm, Ra, Rb, Rc⟩ := hR
  have hpb := hP.bd
  have hrs1 := hrs.1
  have ha0 := Ra.1
  have ha1 := Ra.1.1
  have hL := Ra.2.2.1
  have hbl := plen_bd (rv S a) 64
  have hbd : ∀ t : Nat, t ≤ 64 → 0 ≤ csum (fun j => rv S a j * itm (S.2.1 32) m (i - j)) t ∧ csum (fun j => rv S a j * itm (S.2.1 32) m (i - j)) t ≤ 64 * 58982400 := fun t ht => by
    have h1 := csum_bd (f := fun j => rv S a j * itm (S.2.1 32) m (i - j)) (b := 58982400) (n := t) (fun j _ _ => mul_bd (Ra.2.2.2.2 j) (itm_red (by omega) r32) hpb.2)
    have h2 : (t : Int) * 58982400 ≤ 64 * 58982400 := Int.mul_le_mul_of_nonneg_right (by omega) (by omega)
    omega
  intro k
  induction k with
  | zero =>
    intro t ht
    have hb := hbd t (by omega)
    refine G_iload (pc := 5) dX2_lack_5 rfl ?_
    refine S_aload_n (pc := 7) dX2_lack_7 rfl ?_
    refine S_getR (pc := 8) dX2_lack_8 fX2_30 (by assumption) rfl (by assumption) ?_
    refine S_callV (pc := 11) (ci := 4) (d2 := 1) (mc2 := 0) (ms2 := 0) (As := []) dX2_lack_11 kX4_length lkX2_128 (by assumption) rfl rfl rfl (Nat.le_of_ble_eq_true rfl) ⟨by decide, by decide⟩ (by decide) ?_
    refine c_X4_length (by assumption) ?_
    show G _ _ _ _ _ _ _ _ _ _ _ _ _
    rw [hL]
    refine G_icmp_ge_t (pc := 14) 46 dX2_lack_14 rfl (by omega) (by omega) ?_
    refine S_aload_n (pc := 46) dX2_lack_46 rfl ?_
    refine S_getR (pc := 47) dX2_lack_47 fX2_39 (by assumption) rfl (by assumption) ?_
    refine G_lload_n (pc := 50) dX2_lack_50 rfl ?_
    refine S_callV (pc := 51) (ci := 3) (d2 := 1) (mc2 := 0) (ms2 := 0) (As := [_]) dX2_lack_51 kX3_rest lkX2_81 (by assumption) rfl rfl rfl (Nat.le_of_ble_eq_true rfl) ⟨by decide, by decide⟩ (by decide) ?_
    refine c_X3_rest hrs hP (by omega) ?_
    show G _ _ _ _ _ _ _ _ _ _ _ _ _
    refine G_iret (pc := 54) dX2_lack_54 rfl (by decide) ?_
    rw [show t = (plen (rv S a) 64).toNat by omega]
    exact hq
  | succ k ih =>
    intro t ht
    have h1 := Ra.2.2.2.2 t
    have h2 := itm_red (m := m) (i := i - t) (by omega) r32
    have hmm := mul_bd h1 h2 hpb.2
    have hb := hbd t (by omega)
    have hn := ih (t + 1) (by omega)
    rw [show csum (fun j => rv S a j * itm (S.2.1 32) m (i - j)) (t + 1) = csum (fun j => rv S a j * itm (S.2.1 32) m (i - j)) t + rv S a t * itm (S.2.1 32) m (i - t) from rfl, show ((t + 1 : Nat) : Int) = t + 1 by omega] at hn
    refine G_iload (pc := 5) dX2_lack_5 rfl ?_
    refine S_aload_n (pc := 7) dX2_lack_7 rfl ?_
    refine S_getR (pc := 8) dX2_lack_8 fX2_30 (by assumption) rfl (by assumption) ?_
    refine S_callV (pc := 11) (ci := 4) (d2 := 1) (mc2 := 0) (ms2 := 0) (As := []) dX2_lack_11 kX4_length lkX2_128 (by assumption) rfl rfl rfl (Nat.le_of_ble_eq_true rfl) ⟨by decide, by decide⟩ (by decide) ?_
    refine c_X4_length (by assumption) ?_
    show G _ _ _ _ _ _ _ _ _ _ _ _ _
    rw [hL]
    refine G_icmp_ge_f (pc := 14) 46 dX2_lack_14 rfl (by omega) (by omega) ?_
    refine G_lload_n (pc := 17) dX2_lack_17 rfl ?_
    refine S_aload_n (pc := 18) dX2_lack_18 rfl ?_
    refine S_getR (pc := 19) dX2_lack_19 fX2_30 (by assumption) rfl (by assumption) ?_
    refine G_iload (pc := 22) dX2_lack_22 rfl ?_
    refine S_callV (pc := 24) (ci := 4) (d2 := 1) (mc2 := 0) (ms2 := 0) (As := [_]) dX2_lack_24 kX4_get lkX2_78 (by assumption) rfl rfl rfl (Nat.le_of_ble_eq_true rfl) ⟨by decide, by decide⟩ (by decide) ?_
    refine c_X4_get Ra (by omega) ?_
    show G _ _ _ _ _ _ _ _ _ _ _ _ _
    refine G_i2l (pc := 27) dX2_lack_27 (by omega) ?_
    refine S_aload_n (pc := 28) dX2_lack_28 rfl ?_
    refine G_iload_n (pc := 29) dX2_lack_29 rfl ?_
    refine G_iload (pc := 30) dX2_lack_30 rfl ?_
    refine G_isub (pc := 32) dX2_lack_32 ?_
    refine S_callV (pc := 33) (ci := 2) (d2 := 2) (mc2 := 0) (ms2 := 0) (As := [_]) dX2_lack_33 kX2_valueOf lkX2_69 (by assumption) rfl rfl rfl (Nat.le_of_ble_eq_true rfl) ⟨by decide, by decide⟩ (by decide) ?_
    refine c_X2_valueOf hW (by omega) ?_
    show G _ _ _ _ _ _ _ _ _ _ _ _ _
    refine G_i2l (pc := 36) dX2_lack_36 (by omega) ?_
    refine G_lmul (pc := 37) dX2_lack_37 ?_
    refine G_ladd (pc := 38) dX2_lack_38 ?_
    refine G_lstore_n (pc := 39) (ls' := [(2, _), (4, _), (0, _), (1, _)]) dX2_lack_39 (by decide) rfl ?_
    refine G_iinc (pc := 40) (ls' := [(4, _), (2, _), (0, _), (1, _)]) dX2_lack_40 rfl (by decide) rfl ?_
    refine G_goto (pc := 43) 5 dX2_lack_43 rfl ?_
    exact hn
set_option maxRecDepth 100000 in
set_option maxHeartbeats 4000000 in
theorem c_X2_lack {g : GC} {p m i : Int} {sh : SH} {S : SS} {n a b c : Nat} {Q : Option Value → GA → Nat → Prop} (hW : PlW p sh S m) (hR : PlR p sh S a b c) (hrs : IsRests p sh S 12) (hP : IsP p) (hi : 0 ≤ i ∧ i ≤ 100) (hq : Q (some (.int (iI (lck p (rv S a) (S.2.1 32) m i)))) (hp g sh S) n) : GCall g mX2_lack 3 0 0 [gr g 30, .int (iI i)] (hp g sh S) n Q := by
  have hbl := plen_bd (rv S a) 64
  refine GCall.of (by decide) (Nat.le_of_ble_eq_true rfl) (ls := [(0, _), (1, _)]) rfl ?_
  refine G_lconst (pc := 0) (v := 0) dX2_lack_0 rfl ?_
  refine G_lstore_n (pc := 1) (ls' := [(2, _), (0, _), (1, _)]) dX2_lack_1 (by decide) rfl ?_
  refine G_iconst (pc := 2) dX2_lack_2 ?_
  refine G_istore (pc := 3) (ls' := [(4, _), (2, _), (0, _), (1, _)]) dX2_lack_3 (by decide) rfl ?_
  exact l_X2_lack hW hR hrs hP hi hq (plen (rv S a) 64).toNat 0 (by omega)
abbrev RQ : Type := ((Int → Int) × (Int → Int)) × (Int × Int × Int)
/-- Massey's way behind t values: factors, before; found, since, lackedBefore -/
def rl (p : Int) (vs : Int → Int) (m : Int) : Nat → RQ
  | 0 => ((one, one), (0, 1, 1))
  | t + 1 =>
    let x := rl p vs m t
    if lck p x.1.1 vs m t = 0 then (x.1, (x.2.1, x.2.2.1 + 1, x.2.2.2))
    else if 2 * x.2.1 ≤ t then ((padd p x.1.1 (-(lck p x.1.1 vs m t * inv p x.2.2.2 % p)) x.1.2 x.2.2.1, x.1.1), (t + 1 - x.2.1, 1, lck p x.1.1 vs m t))
    else ((padd p x.1.1 (-(lck p x.1.1 vs m t * inv p x.2.2.2 % p)) x.1.2 x.2.2.1, x.1.2), (x.2.1, x.2.2.1 + 1, x.2.2.2))
def RLok (p : Int) (x : RQ) (t : Nat) : Prop := Sup x.1.1 64 ∧ Red p x.1.1 ∧ Sup x.1.2 64 ∧ Red p x.1.2 ∧ plen x.1.1 64 ≤ t + 1 ∧ plen x.1.2 64 + x.2.2.1 ≤ t + 2 ∧ 0 ≤ x.2.1 ∧ x.2.1 ≤ t ∧ 1 ≤ x.2.2.1 ∧ (0 ≤ x.2.2.2 ∧ x.2.2.2 < p)
theorem padd_len {p f s : Int} {C B : Int → Int} {L : Int} (hC : Red p C) (h0 : 0 ≤ L) (h1 : ∀ j : Int, L ≤ j → C j = 0) (h2 : ∀ j : Int, L ≤ j → B (j - s) = 0) : plen (padd p C f B s) 64 ≤ L := plen_le h0 (fun j hj _ => by rw [padd_out hC (h2 j hj)]; exact h1 j hj)
theorem rl_ok {p m : Int} {vs : Int → Int} (hP : IsP p) : ∀ t : Nat, t ≤ 16 → RLok p (rl p vs m t) t
  | 0, _ => by
    have hb := hP.bd
    have ho : plen one 64 ≤ 1 := plen_le (by omega) (fun j h1 h2 => by show iup pz 0 1 j = 0; rw [iup_ne (by omega)]; rfl)
    exact ⟨one_sup (by decide), one_red hP, one_sup (by decide), one_red hP, ho, by show plen one 64 + 1 ≤ 0 + 2; omega, Int.le_refl _, Int.le_refl _, Int.le_refl _, by show (0 : Int) ≤ 1; decide, by show (1 : Int) < p; omega⟩
  | t + 1, ht => by
    have hb := hP.bd
    obtain ⟨h1, h2, h3, h4, h5, h6, h7, h8, h9, h10⟩ := rl_ok hP t (by omega)
    have hbB := plen_bd (rl p vs m t).1.2 64
    have hem : 0 ≤ lck p (rl p vs m t).1.1 vs m t ∧ lck p (rl p vs m t).1.1 vs m t < p := em_bd (by omega)
    have hsup : ∀ f : Int, Sup (padd p (rl p vs m t).1.1 f (rl p vs m t).1.2 (rl p vs m t).2.2.1) 64 := fun f => padd_sup (la := plen (rl p vs m t).1.2 64) h2 h1 (by omega) (fun j hj => hj.elim (fun h => h3 j (Or.inl h)) (fun h => Sup_len h3 h)) (by omega)
    have hlen : ∀ f : Int, plen (padd p (rl p vs m t).1.1 f (rl p vs m t).1.2 (rl p vs m t).2.2.1) 64 ≤ t + 2 := fun f => padd_len h2 (by omega) (fun j hj => Sup_len h1 (by omega)) (fun j hj => Sup_len h3 (by omega))
    unfold RLok
    unfold rl
    dsimp only
    by_cases c1 : lck p (rl p vs m t).1.1 vs m t = 0
    · rw [if_pos c1]
      exact ⟨h1, h2, h3, h4, by dsimp only; omega, by dsimp only; omega, h7, by dsimp only; omega, by dsimp only; omega, h10⟩
    · rw [if_neg c1]
      by_cases c2 : 2 * (rl p vs m t).2.1 ≤ t
      · rw [if_pos c2]
        refine ⟨hsup _, padd_red (by omega), h1, h2, ?_, by dsimp only; omega, by dsimp only; omega, by dsimp only; omega, by dsimp only; omega, hem⟩
        have := hlen (-(lck p (rl p vs m t).1.1 vs m t * inv p (rl p vs m t).2.2.2 % p))
        dsimp only; omega
      · rw [if_neg c2]
        refine ⟨hsup _, padd_red (by omega), h3, h4, ?_, by dsimp only; omega, h7, by dsimp only; omega, by dsimp only; omega, h10⟩
        have := hlen (-(lck p (rl p vs m t).1.1 vs m t * inv p (rl p vs m t).2.2.2 % p))
        dsimp only; omega
set_option maxRecDepth 100000 in
set_option maxHeartbeats 4000000 in
theorem l_X2_seekRelation {g : GC} {p m : Int} {sh : SH} {S0 : SS} {n a : Nat} {Q : Option Value → GA → Nat → Prop} (hP : IsP p) (hq : ∀ (S : SS) (b c : Nat), Same RelD S0 S → PlW p sh S m → PlR p sh S a b c → Alg p sh S → rv S a = (rl p (S0.2.1 32) m m.toNat).1.1 → Q (some (.int (iI (rl p (S0.2.1 32) m m.toNat).2.1))) (hp g sh S) n) :
    ∀ (k t : Nat) (S : SS) (b c : Nat), t + k = m → Same RelD S0 S → PlW p sh S m → PlR p sh S a b c → Alg p sh S → rv S a = (rl p (S0.2.1 32) m t).1.1 → rv S b = (rl p (S0.2.1 32) m t).1.2 →
    G g mX2_seekRelation 4 0 0 36 [(4, .int (iI t)), (3, .int (iI (rl p (S0.2.1 32) m t).2.2.2)), (2, .int (iI (rl p (S0.2.1 32) m t).2.2.1)), (1, .int (iI (rl p (S0.2.1 32) m t).2.1)), (0, gr g 30)] [] (hp g sh S) n 0 0 Q := by
  have hpb := hP.bd
  intro k
  induction k with
  | zero =>
    intro t S b c ht hS hW hR hA va vb
    have hW' := hW
    obtain ⟨h30, p0, p1, p2, p3, p5, p6, h31, h32, hm, hmb, r31, r32, R33, R35⟩ := hW'
    refine G_iload (pc := 36) dX2_seekRelation_36 rfl ?_
    refine S_aload_n (pc := 38) dX2_seekRelation_38 rfl ?_
    refine S_getI (pc := 39) dX2_seekRelation_39 fX2_47 (by assumption) rfl ?_
    rw [hm]
    refine G_icmp_ge_t (pc := 42) 159 dX2_seekRelation_42 rfl (by omega) (by omega) ?_
    refine G_iload_n (pc := 159) dX2_seekRelation_159 rfl ?_
    refine G_iret (pc := 160) dX2_seekRelation_160 rfl (by decide) ?_
    rw [show t = m.toNat by omega] at va ⊢
    exact hq S b c hS hW hR hA va
  | succ k ih =>
    intro t S b c ht hS hW hR hA va vb
    have hW' := hW
    obtain ⟨h30, p0, p1, p2, p3, p5, p6, h31, h32, hm, hmb, r31, r32, R33, R35⟩ := hW'
    have hR' := hR
    obtain ⟨q7, q8, q9, hperm, Ra, Rb, Rc⟩ := hR'
    have hrs := hA.2.1
    have hrs1 := hrs.1
    have h13 := hA.2.2.1
    have hA0 := hA.2.2.2.1
    have hc1 := Rc.1.1
    have hok := rl_ok (p := p) (vs := S0.2.1 32) (m := m) hP t (by omega)
    obtain ⟨k1, k2, k3, k4, k5, k6, k7, k8, k9, k10⟩ := hok
    have hbB := plen_bd (rl p (S0.2.1 32) m t).1.2 64
    have e32 : S.2.1 32 = S0.2.1 32 := hS.2.1 32 (nRel (by decide) (by decide))
    have elk : lck p (rv S a) (S.2.1 32) m t = lck p (rl p (S0.2.1 32) m t).1.1 (S0.2.1 32) m t := by rw [va, e32]
    have hlb : 0 ≤ lck p (rl p (S0.2.1 32) m t).1.1 (S0.2.1 32) m t ∧ lck p (rl p (S0.2.1 32) m t).1.1 (S0.2.1 32) m t < p := em_bd (by omega)
    have hib := inv_bd (x := (rl p (S0.2.1 32) m t).2.2.2) hP
    have hfb := em_bd (z := lck p (rl p (S0.2.1 32) m t).1.1 (S0.2.1 32) m t * inv p (rl p (S0.2.1 32) m t).2.2.2) (p := p) (by omega)
    have eS : rl p (S0.2.1 32) m (t + 1) = if lck p (rl p (S0.2.1 32) m t).1.1 (S0.2.1 32) m t = 0 then ((rl p (S0.2.1 32) m t).1, ((rl p (S0.2.1 32) m t).2.1, (rl p (S0.2.1 32) m t).2.2.1 + 1, (rl p (S0.2.1 32) m t).2.2.2)) else if 2 * (rl p (S0.2.1 32) m t).2.1 ≤ t then ((padd p (rl p (S0.2.1 32) m t).1.1 (-(lck p (rl p (S0.2.1 32) m t).1.1 (S0.2.1 32) m t * inv p (rl p (S0.2.1 32) m t).2.2.2 % p)) (rl p (S0.2.1 32) m t).1.2 (rl p (S0.2.1 32) m t).2.2.1, (rl p (S0.2.1 32) m t).1.1), (t + 1 - (rl p (S0.2.1 32) m t).2.1, 1, lck p (rl p (S0.2.1 32) m t).1.1 (S0.2.1 32) m t)) else ((padd p (rl p (S0.2.1 32) m t).1.1 (-(lck p (rl p (S0.2.1 32) m t).1.1 (S0.2.1 32) m t * inv p (rl p (S0.2.1 32) m t).2.2.2 % p)) (rl p (S0.2.1 32) m t).1.2 (rl p (S0.2.1 32) m t).2.2.1, (rl p (S0.2.1 32) m t).1.2), ((rl p (S0.2.1 32) m t).2.1, (rl p (S0.2.1 32) m t).2.2.1 + 1, (rl p (S0.2.1 32) m t).2.2.2)) := rfl
    have hd := p3D hperm
    -- behind the copy
    have W2 : PlW p sh (rput S c (rv S a) 64) m := PlW_put hW (p3x (x := 0) hperm.2.2.1)
    have A2 : Alg p sh (rput S c (rv S a) 64) := Alg_ne hA (p3C hperm (by decide)) (p3C hperm (by decide)) (p3C hperm (by decide)) (p3C hperm (by decide))
    have Ra2 : Row p sh (rput S c (rv S a) 64) a 64 := Row_ne Ra (p3AC hperm)
    have Rb2 : Row p sh (rput S c (rv S a) 64) b 64 := Row_ne Rb (p3BC hperm)
    have va2 : rv (rput S c (rv S a) 64) a = (rl p (S0.2.1 32) m t).1.1 := by rw [rput_ne (p3AC hperm), va]
    have vb2 : rv (rput S c (rv S a) 64) b = (rl p (S0.2.1 32) m t).1.2 := by rw [rput_ne (p3BC hperm), vb]
    have lb2 : (rput S c (rv S a) 64).1 b 1 = plen (rl p (S0.2.1 32) m t).1.2 64 := by rw [rput_F (Or.inl (p3BC hperm)), Rb.2.2.1, vb]
    have hps : Sup (padd p (rl p (S0.2.1 32) m t).1.1 (-(lck p (rl p (S0.2.1 32) m t).1.1 (S0.2.1 32) m t * inv p (rl p (S0.2.1 32) m t).2.2.2 % p)) (rl p (S0.2.1 32) m t).1.2 (rl p (S0.2.1 32) m t).2.2.1) 64 := padd_sup (la := plen (rl p (S0.2.1 32) m t).1.2 64) k2 k1 (by omega) (fun j hj => hj.elim (fun h => k3 j (Or.inl h)) (fun h => Sup_len k3 h)) (by omega)
    have hnext : lck p (rl p (S0.2.1 32) m t).1.1 (S0.2.1 32) m t ≠ 0 → ∀ P : Int → Int, P = padd p (rl p (S0.2.1 32) m t).1.1 (-(lck p (rl p (S0.2.1 32) m t).1.1 (S0.2.1 32) m t * inv p (rl p (S0.2.1 32) m t).2.2.2 % p)) (rl p (S0.2.1 32) m t).1.2 (rl p (S0.2.1 32) m t).2.2.1 → PlW p sh (rput (rput S c (rv S a) 64) a P 64) m ∧ Alg p sh (rput (rput S c (rv S a) 64) a P 64) ∧ Same RelD S0 (rput (rput S c (rv S a) 64) a P 64) ∧ Row p sh (rput (rput S c (rv S a) 64) a P 64) a 64 ∧ Row p sh (rput (rput S c (rv S a) 64) a P 64) b 64 ∧ Row p sh (rput (rput S c (rv S a) 64) a P 64) c 64 ∧ rv (rput (rput S c (rv S a) 64) a P 64) a = P ∧ rv (rput (rput S c (rv S a) 64) a P 64) b = (rl p (S0.2.1 32) m t).1.2 ∧ rv (rput (rput S c (rv S a) 64) a P 64) c = (rl p (S0.2.1 32) m t).1.1 := by
      intro _ P hPe
      refine ⟨PlW_put W2 (p3x (x := 0) hperm.1), Alg_ne A2 (p3A hperm (by decide)) (p3A hperm (by decide)) (p3A hperm (by decide)) (p3A hperm (by decide)), Same_put (Same_put hS hd.2.2.1 hd.2.2.2) hd.1.1 hd.1.2, Row_put Ra2 (by rw [hPe]; exact hps) (by rw [hPe]; exact padd_red (by omega)), Row_ne Rb2 (Ne.symm (p3AB hperm)), Row_ne (Row_put Rc (va ▸ k1) (va ▸ k2)) (Ne.symm (p3AC hperm)), rput_rv, ?_, ?_⟩
      · rw [rput_ne (Ne.symm (p3AB hperm)), vb2]
      · rw [rput_ne (Ne.symm (p3AC hperm)), rput_rv, va]
    refine G_iload (pc := 36) dX2_seekRelation_36 rfl ?_
    refine S_aload_n (pc := 38) dX2_seekRelation_38 rfl ?_
    refine S_getI (pc := 39) dX2_seekRelation_39 fX2_47 (by assumption) rfl ?_
    rw [hm]
    refine G_icmp_ge_f (pc := 42) 159 dX2_seekRelation_42 rfl (by omega) (by omega) ?_
    refine S_aload_n (pc := 45) dX2_seekRelation_45 rfl ?_
    refine G_iload (pc := 46) dX2_seekRelation_46 rfl ?_
    refine S_callV (pc := 48) (ci := 2) (d2 := 3) (mc2 := 0) (ms2 := 0) (As := [_]) dX2_seekRelation_48 kX2_lack lkX2_125 (by assumption) rfl rfl rfl (Nat.le_of_ble_eq_true rfl) ⟨by decide, by decide⟩ (by decide) ?_
    refine c_X2_lack hW hR hrs hP (by omega) ?_
    rw [elk]
    show G _ _ _ _ _ _ _ _ _ _ _ _ _
    refine G_istore (pc := 51) (ls' := [(5, _), (4, _), (3, _), (2, _), (1, _), (0, _)]) dX2_seekRelation_51 (by decide) rfl ?_
    refine G_iload (pc := 53) dX2_seekRelation_53 rfl ?_
    refine G_if_ne (pc := 55) 61 dX2_seekRelation_55 rfl (by omega) (fun c55 => ?_) (fun c55 => ?_)
    · skip
      refine S_aload_n (pc := 61) dX2_seekRelation_61 rfl ?_
      refine S_getR (pc := 62) dX2_seekRelation_62 fX2_36 (by assumption) rfl (by assumption) ?_
      refine S_aload_n (pc := 65) dX2_seekRelation_65 rfl ?_
      refine S_getR (pc := 66) dX2_seekRelation_66 fX2_30 (by assumption) rfl (by assumption) ?_
      refine S_callV (pc := 69) (ci := 4) (d2 := 3) (mc2 := 0) (ms2 := 0) (As := [_]) dX2_seekRelation_69 kX4_copy lkX2_106 (by assumption) rfl rfl rfl (Nat.le_of_ble_eq_true rfl) ⟨by decide, by decide⟩ (by decide) ?_
      refine c_X4_copy Rc Ra (p3AC hperm) (by omega) ?_
      rw [clip_id Ra.2.2.2.1]
      show G _ _ _ _ _ _ _ _ _ _ _ _ _
      refine S_aload_n (pc := 72) dX2_seekRelation_72 rfl ?_
      refine S_getR (pc := 73) dX2_seekRelation_73 fX2_39 (by assumption) rfl (by assumption) ?_
      refine G_iload (pc := 76) dX2_seekRelation_76 rfl ?_
      refine S_aload_n (pc := 78) dX2_seekRelation_78 rfl ?_
      refine S_getR (pc := 79) dX2_seekRelation_79 fX2_39 (by assumption) rfl (by assumption) ?_
      refine G_iload_n (pc := 82) dX2_seekRelation_82 rfl ?_
      refine S_callV (pc := 83) (ci := 3) (d2 := 3) (mc2 := 0) (ms2 := 0) (As := [_]) dX2_seekRelation_83 kX3_inverse lkX2_87 (by assumption) rfl rfl rfl (Nat.le_of_ble_eq_true rfl) ⟨by decide, by decide⟩ (by decide) ?_
      refine c_X3_inverse A2.2.1 hP k10 ?_
      show G _ _ _ _ _ _ _ _ _ _ _ _ _
      refine S_callV (pc := 86) (ci := 3) (d2 := 1) (mc2 := 0) (ms2 := 0) (As := [_, _]) dX2_seekRelation_86 kX3_product lkX2_90 (by assumption) rfl rfl rfl (Nat.le_of_ble_eq_true rfl) ⟨by decide, by decide⟩ (by decide) ?_
      refine c_X3_product A2.2.1 hP hlb hib ?_
      show G _ _ _ _ _ _ _ _ _ _ _ _ _
      refine G_istore (pc := 89) (ls' := [(6, _), (5, _), (4, _), (3, _), (2, _), (1, _), (0, _)]) dX2_seekRelation_89 (by decide) rfl ?_
      refine S_aload_n (pc := 91) dX2_seekRelation_91 rfl ?_
      refine S_getR (pc := 92) dX2_seekRelation_92 fX2_43 (by assumption) rfl (by assumption) ?_
      refine S_aload_n (pc := 95) dX2_seekRelation_95 rfl ?_
      refine S_getR (pc := 96) dX2_seekRelation_96 fX2_30 (by assumption) rfl (by assumption) ?_
      refine G_iload (pc := 99) dX2_seekRelation_99 rfl ?_
      refine G_ineg (pc := 101) dX2_seekRelation_101 ?_
      refine S_aload_n (pc := 102) dX2_seekRelation_102 rfl ?_
      refine S_getR (pc := 103) dX2_seekRelation_103 fX2_33 (by assumption) rfl (by assumption) ?_
      refine G_iload_n (pc := 106) dX2_seekRelation_106 rfl ?_
      refine S_callV (pc := 107) (ci := 0) (d2 := 2) (mc2 := 0) (ms2 := 0) (As := [_, _, _, _]) dX2_seekRelation_107 kX0_addMultiple lkX2_94 (by assumption) rfl rfl rfl (Nat.le_of_ble_eq_true rfl) ⟨by decide, by decide⟩ (by decide) ?_
      refine c_X0_addMultiple hP A2.2.1 h13 hA0 Ra2 Rb2 (Ne.symm (p3AB hperm)) (by omega) (by omega) (by rw [lb2]; omega) ?_
      rw [va2, vb2]
      obtain ⟨n1, n2, n3, n4, n5, n6, n7, n8, n9⟩ := hnext c55 _ rfl
      show G _ _ _ _ _ _ _ _ _ _ _ _ _
      refine G_iconst (pc := 110) dX2_seekRelation_110 ?_
      refine G_iload_n (pc := 111) dX2_seekRelation_111 rfl ?_
      refine G_imul (pc := 112) dX2_seekRelation_112 ?_
      refine G_iload (pc := 113) dX2_seekRelation_113 rfl ?_
      refine G_icmp_gt (pc := 115) 150 dX2_seekRelation_115 rfl (by omega) (fun c115 => ?_) (fun c115 => ?_)
      · skip
        refine G_iinc (pc := 150) (ls' := [(4, _), (6, _), (5, _), (3, _), (2, _), (1, _), (0, _)]) dX2_seekRelation_150 rfl (by decide) rfl ?_
        refine G_iinc (pc := 153) (ls' := [(2, _), (4, _), (6, _), (5, _), (3, _), (1, _), (0, _)]) dX2_seekRelation_153 rfl (by decide) rfl ?_
        refine G_goto (pc := 156) 36 dX2_seekRelation_156 rfl ?_
        refine G_ls (ls' := [(4, _), (3, _), (2, _), (1, _), (0, _)]) (lsub_c rfl (lsub_c rfl (lsub_c rfl (lsub_c rfl (lsub_c rfl lsub_n))))) ?_
        first
          | (have := ih (t + 1) S b c (by omega) hS hW hR hA (by rw [eS, if_pos (by omega)]; exact va) (by rw [eS, if_pos (by omega)]; exact vb)
             rw [eS, if_pos (by omega)] at this
             exact this)
          | (have := ih (t + 1) _ b c (by omega) n3 n1 ⟨q7, q8, q9, hperm, n4, n5, n6⟩ n2 (by rw [n7, eS, if_neg c55, if_neg (by omega)]) (by rw [n8, eS, if_neg c55, if_neg (by omega)])
             rw [eS, if_neg c55, if_neg (by omega)] at this
             exact this)
          | (have := ih (t + 1) (setP (setP (rput (rput S c (rv S a) 64) a (padd p (rl p (S0.2.1 32) m t).1.1 (-(lck p (rl p (S0.2.1 32) m t).1.1 (S0.2.1 32) m t * inv p (rl p (S0.2.1 32) m t).2.2.2 % p)) (rl p (S0.2.1 32) m t).1.2 (rl p (S0.2.1 32) m t).2.2.1) 64) 30 8 (some c)) 30 9 (some b)) c b (by omega) (Same_setP (Same_setP n3 (Or.inl rfl)) (Or.inl rfl)) (PlW_setP (PlW_setP n1 (by decide)) (by decide)) ⟨by rw [setP_ne (Or.inr (by decide)), setP_ne (Or.inr (by decide))]; exact q7, by rw [setP_ne (Or.inr (by decide))]; exact setP_at, setP_at, ⟨hperm.1, hperm.2.2.1, hperm.2.1, p3AC hperm, p3AB hperm, Ne.symm (p3BC hperm)⟩, Row_setP (Row_setP n4 (p3A hperm (by decide))) (p3A hperm (by decide)), Row_setP (Row_setP n6 (p3C hperm (by decide))) (p3C hperm (by decide)), Row_setP (Row_setP n5 (p3B hperm (by decide))) (p3B hperm (by decide))⟩ (Alg_same (D := fun x => x = 30) ⟨fun _ _ _ => rfl, fun _ _ => rfl, fun x k hx => by rw [setP_ne (Or.inl hx), setP_ne (Or.inl hx)]⟩ (fun x h1 h2 => by omega) n2) (by rw [eS, if_neg c55, if_pos (by omega)]; exact n7) (by rw [eS, if_neg c55, if_pos (by omega)]; exact n9)
             rw [eS, if_neg c55, if_pos (by omega)] at this
             exact this)
      · skip
        refine G_iload (pc := 118) dX2_seekRelation_118 rfl ?_
        refine G_iconst (pc := 120) dX2_seekRelation_120 ?_
        refine G_iadd (pc := 121) dX2_seekRelation_121 ?_
        refine G_iload_n (pc := 122) dX2_seekRelation_122 rfl ?_
        refine G_isub (pc := 123) dX2_seekRelation_123 ?_
        refine G_istore_n (pc := 124) (ls' := [(1, _), (6, _), (5, _), (4, _), (3, _), (2, _), (0, _)]) dX2_seekRelation_124 (by decide) rfl ?_
        refine G_iload (pc := 125) dX2_seekRelation_125 rfl ?_
        refine G_istore_n (pc := 127) (ls' := [(3, _), (1, _), (6, _), (5, _), (4, _), (2, _), (0, _)]) dX2_seekRelation_127 (by decide) rfl ?_
        refine G_iconst (pc := 128) dX2_seekRelation_128 ?_
        refine G_istore_n (pc := 129) (ls' := [(2, _), (3, _), (1, _), (6, _), (5, _), (4, _), (0, _)]) dX2_seekRelation_129 (by decide) rfl ?_
        refine S_aload_n (pc := 130) dX2_seekRelation_130 rfl ?_
        refine S_getR (pc := 131) dX2_seekRelation_131 fX2_33 (by assumption) rfl (by assumption) ?_
        refine S_astore (pc := 134) (ls' := [(7, _), (2, _), (3, _), (1, _), (6, _), (5, _), (4, _), (0, _)]) dX2_seekRelation_134 (by decide) rfl ?_
        refine S_aload_n (pc := 136) dX2_seekRelation_136 rfl ?_
        refine S_aload_n (pc := 137) dX2_seekRelation_137 rfl ?_
        refine S_getR (pc := 138) dX2_seekRelation_138 fX2_36 (by assumption) rfl (by assumption) ?_
        refine S_putR (pc := 141) dX2_seekRelation_141 fX2_33 (by assumption) rfl ⟨rfl, rfl⟩ ?_
        refine S_aload_n (pc := 144) dX2_seekRelation_144 rfl ?_
        refine S_aload (pc := 145) dX2_seekRelation_145 rfl ?_
        refine S_putR (pc := 147) dX2_seekRelation_147 fX2_36 (by assumption) rfl ⟨rfl, rfl⟩ ?_
        refine G_iinc (pc := 150) (ls' := [(4, _), (7, _), (2, _), (3, _), (1, _), (6, _), (5, _), (0, _)]) dX2_seekRelation_150 rfl (by decide) rfl ?_
        refine G_iinc (pc := 153) (ls' := [(2, _), (4, _), (7, _), (3, _), (1, _), (6, _), (5, _), (0, _)]) dX2_seekRelation_153 rfl (by decide) rfl ?_
        refine G_goto (pc := 156) 36 dX2_seekRelation_156 rfl ?_
        refine G_ls (ls' := [(4, _), (3, _), (2, _), (1, _), (0, _)]) (lsub_c rfl (lsub_c rfl (lsub_c rfl (lsub_c rfl (lsub_c rfl lsub_n))))) ?_
        first
          | (have := ih (t + 1) S b c (by omega) hS hW hR hA (by rw [eS, if_pos (by omega)]; exact va) (by rw [eS, if_pos (by omega)]; exact vb)
             rw [eS, if_pos (by omega)] at this
             exact this)
          | (have := ih (t + 1) _ b c (by omega) n3 n1 ⟨q7, q8, q9, hperm, n4, n5, n6⟩ n2 (by rw [n7, eS, if_neg c55, if_neg (by omega)]) (by rw [n8, eS, if_neg c55, if_neg (by omega)])
             rw [eS, if_neg c55, if_neg (by omega)] at this
             exact this)
          | (have := ih (t + 1) (setP (setP (rput (rput S c (rv S a) 64) a (padd p (rl p (S0.2.1 32) m t).1.1 (-(lck p (rl p (S0.2.1 32) m t).1.1 (S0.2.1 32) m t * inv p (rl p (S0.2.1 32) m t).2.2.2 % p)) (rl p (S0.2.1 32) m t).1.2 (rl p (S0.2.1 32) m t).2.2.1) 64) 30 8 (some c)) 30 9 (some b)) c b (by omega) (Same_setP (Same_setP n3 (Or.inl rfl)) (Or.inl rfl)) (PlW_setP (PlW_setP n1 (by decide)) (by decide)) ⟨by rw [setP_ne (Or.inr (by decide)), setP_ne (Or.inr (by decide))]; exact q7, by rw [setP_ne (Or.inr (by decide))]; exact setP_at, setP_at, ⟨hperm.1, hperm.2.2.1, hperm.2.1, p3AC hperm, p3AB hperm, Ne.symm (p3BC hperm)⟩, Row_setP (Row_setP n4 (p3A hperm (by decide))) (p3A hperm (by decide)), Row_setP (Row_setP n6 (p3C hperm (by decide))) (p3C hperm (by decide)), Row_setP (Row_setP n5 (p3B hperm (by decide))) (p3B hperm (by decide))⟩ (Alg_same (D := fun x => x = 30) ⟨fun _ _ _ => rfl, fun _ _ => rfl, fun x k hx => by rw [setP_ne (Or.inl hx), setP_ne (Or.inl hx)]⟩ (fun x h1 h2 => by omega) n2) (by rw [eS, if_neg c55, if_pos (by omega)]; exact n7) (by rw [eS, if_neg c55, if_pos (by omega)]; exact n9)
             rw [eS, if_neg c55, if_pos (by omega)] at this
             exact this)
    · skip
      refine G_goto (pc := 58) 150 dX2_seekRelation_58 rfl ?_
      refine G_iinc (pc := 150) (ls' := [(4, _), (5, _), (3, _), (2, _), (1, _), (0, _)]) dX2_seekRelation_150 rfl (by decide) rfl ?_
      refine G_iinc (pc := 153) (ls' := [(2, _), (4, _), (5, _), (3, _), (1, _), (0, _)]) dX2_seekRelation_153 rfl (by decide) rfl ?_
      refine G_goto (pc := 156) 36 dX2_seekRelation_156 rfl ?_
      refine G_ls (ls' := [(4, _), (3, _), (2, _), (1, _), (0, _)]) (lsub_c rfl (lsub_c rfl (lsub_c rfl (lsub_c rfl (lsub_c rfl lsub_n))))) ?_
      first
        | (have := ih (t + 1) S b c (by omega) hS hW hR hA (by rw [eS, if_pos (by omega)]; exact va) (by rw [eS, if_pos (by omega)]; exact vb)
           rw [eS, if_pos (by omega)] at this
           exact this)
        | (have := ih (t + 1) _ b c (by omega) n3 n1 ⟨q7, q8, q9, hperm, n4, n5, n6⟩ n2 (by rw [n7, eS, if_neg c55, if_neg (by omega)]) (by rw [n8, eS, if_neg c55, if_neg (by omega)])
           rw [eS, if_neg c55, if_neg (by omega)] at this
           exact this)
        | (have := ih (t + 1) (setP (setP (rput (rput S c (rv S a) 64) a (padd p (rl p (S0.2.1 32) m t).1.1 (-(lck p (rl p (S0.2.1 32) m t).1.1 (S0.2.1 32) m t * inv p (rl p (S0.2.1 32) m t).2.2.2 % p)) (rl p (S0.2.1 32) m t).1.2 (rl p (S0.2.1 32) m t).2.2.1) 64) 30 8 (some c)) 30 9 (some b)) c b (by omega) (Same_setP (Same_setP n3 (Or.inl rfl)) (Or.inl rfl)) (PlW_setP (PlW_setP n1 (by decide)) (by decide)) ⟨by rw [setP_ne (Or.inr (by decide)), setP_ne (Or.inr (by decide))]; exact q7, by rw [setP_ne (Or.inr (by decide))]; exact setP_at, setP_at, ⟨hperm.1, hperm.2.2.1, hperm.2.1, p3AC hperm, p3AB hperm, Ne.symm (p3BC hperm)⟩, Row_setP (Row_setP n4 (p3A hperm (by decide))) (p3A hperm (by decide)), Row_setP (Row_setP n6 (p3C hperm (by decide))) (p3C hperm (by decide)), Row_setP (Row_setP n5 (p3B hperm (by decide))) (p3B hperm (by decide))⟩ (Alg_same (D := fun x => x = 30) ⟨fun _ _ _ => rfl, fun _ _ => rfl, fun x k hx => by rw [setP_ne (Or.inl hx), setP_ne (Or.inl hx)]⟩ (fun x h1 h2 => by omega) n2) (by rw [eS, if_neg c55, if_pos (by omega)]; exact n7) (by rw [eS, if_neg c55, if_pos (by omega)]; exact n9)
           rw [eS, if_neg c55, if_pos (by omega)] at this
           exact this)
set_option maxRecDepth 100000 in
set_option maxHeartbeats 4000000 in
theorem c_X2_seekRelation {g : GC} {p m : Int} {sh : SH} {S : SS} {n a b c : Nat} {Q : Option Value → GA → Nat → Prop} (hP : IsP p) (hW : PlW p sh S m) (hR : PlR p sh S a b c) (hA : Alg p sh S) (hq : ∀ (S' : SS) (b c : Nat), Same RelD S S' → PlW p sh S' m → PlR p sh S' a b c → Alg p sh S' → rv S' a = (rl p (S.2.1 32) m m.toNat).1.1 → Q (some (.int (iI (rl p (S.2.1 32) m m.toNat).2.1))) (hp g sh S') n) : GCall g mX2_seekRelation 4 0 0 [gr g 30] (hp g sh S) n Q := by
  have hW' := hW
  obtain ⟨h30, p0, p1, p2, p3, p5, p6, h31, h32, hm, hmb, r31, r32, R33, R35⟩ := hW'
  obtain ⟨q7, q8, q9, hperm, Ra, Rb, Rc⟩ := hR
  have hpb := hP.bd
  have ha1 := Ra.1.1
  have hb1 := Rb.1.1
  have hd := p3D hperm
  have R1 : Row p sh (rput S a pz 64) a 64 := Row_put Ra Sup_pz (Red_pz (by omega))
  have R2 : Row p sh (rput S a one 64) a 64 := Row_put Ra (one_sup (by decide)) (one_red hP)
  have Rb2 : Row p sh (rput S a one 64) b 64 := Row_ne Rb (Ne.symm (p3AB hperm))
  have R3 : Row p sh (rput (rput S a one 64) b one 64) a 64 := Row_ne R2 (p3AB hperm)
  have Rb3 : Row p sh (rput (rput S a one 64) b one 64) b 64 := Row_put Rb2 (one_sup (by decide)) (one_red hP)
  have Rc3 : Row p sh (rput (rput S a one 64) b one 64) c 64 := Row_ne (Row_ne Rc (Ne.symm (p3AC hperm))) (Ne.symm (p3BC hperm))
  refine GCall.of (by decide) (Nat.le_of_ble_eq_true rfl) (ls := [(0, _)]) rfl ?_
  refine S_aload_n (pc := 0) dX2_seekRelation_0 rfl ?_
  refine S_getR (pc := 1) dX2_seekRelation_1 fX2_30 (by assumption) rfl (by assumption) ?_
  refine S_callV (pc := 4) (ci := 4) (d2 := 1) (mc2 := 0) (ms2 := 0) (As := []) dX2_seekRelation_4 kX4_wipe lkX2_62 (by assumption) rfl rfl rfl (Nat.le_of_ble_eq_true rfl) ⟨by decide, by decide⟩ (by decide) ?_
  refine c_X4_wipe Ra ?_
  show G _ _ _ _ _ _ _ _ _ _ _ _ _
  refine S_aload_n (pc := 7) dX2_seekRelation_7 rfl ?_
  refine S_getR (pc := 8) dX2_seekRelation_8 fX2_30 (by assumption) rfl (by assumption) ?_
  refine G_iconst (pc := 11) dX2_seekRelation_11 ?_
  refine G_iconst (pc := 12) dX2_seekRelation_12 ?_
  refine S_callV (pc := 13) (ci := 4) (d2 := 1) (mc2 := 0) (ms2 := 0) (As := [_, _]) dX2_seekRelation_13 kX4_set lkX2_65 (by assumption) rfl rfl rfl (Nat.le_of_ble_eq_true rfl) ⟨by decide, by decide⟩ (by decide) ?_
  refine c_X4_set R1 hpb.2 (by omega) (by omega) ?_
  rw [rput_rv, rput_rput]
  show G _ _ _ _ _ _ _ _ (hp g sh (rput S a one 64)) _ _ _ _
  show G _ _ _ _ _ _ _ _ _ _ _ _ _
  refine S_aload_n (pc := 16) dX2_seekRelation_16 rfl ?_
  refine S_getR (pc := 17) dX2_seekRelation_17 fX2_33 (by assumption) rfl (by assumption) ?_
  refine S_aload_n (pc := 20) dX2_seekRelation_20 rfl ?_
  refine S_getR (pc := 21) dX2_seekRelation_21 fX2_30 (by assumption) rfl (by assumption) ?_
  refine S_callV (pc := 24) (ci := 4) (d2 := 3) (mc2 := 0) (ms2 := 0) (As := [_]) dX2_seekRelation_24 kX4_copy lkX2_106 (by assumption) rfl rfl rfl (Nat.le_of_ble_eq_true rfl) ⟨by decide, by decide⟩ (by decide) ?_
  refine c_X4_copy Rb2 R2 (p3AB hperm) (by omega) ?_
  rw [rput_rv, clip_id (one_sup (by decide))]
  show G _ _ _ _ _ _ _ _ _ _ _ _ _
  refine G_iconst (pc := 27) dX2_seekRelation_27 ?_
  refine G_istore_n (pc := 28) (ls' := [(1, _), (0, _)]) dX2_seekRelation_28 (by decide) rfl ?_
  refine G_iconst (pc := 29) dX2_seekRelation_29 ?_
  refine G_istore_n (pc := 30) (ls' := [(2, _), (1, _), (0, _)]) dX2_seekRelation_30 (by decide) rfl ?_
  refine G_iconst (pc := 31) dX2_seekRelation_31 ?_
  refine G_istore_n (pc := 32) (ls' := [(3, _), (2, _), (1, _), (0, _)]) dX2_seekRelation_32 (by decide) rfl ?_
  refine G_iconst (pc := 33) dX2_seekRelation_33 ?_
  refine G_istore (pc := 34) (ls' := [(4, _), (3, _), (2, _), (1, _), (0, _)]) dX2_seekRelation_34 (by decide) rfl ?_
  exact l_X2_seekRelation (S0 := S) hP hq m.toNat 0 _ b c (by omega) (Same_put (Same_put Same_rf hd.1.1 hd.1.2) hd.2.1.1 hd.2.1.2) (PlW_put (PlW_put hW (p3x (x := 0) hperm.1)) (p3x (x := 0) hperm.2.1)) ⟨q7, q8, q9, hperm, R3, Rb3, Rc3⟩ (Alg_ne (Alg_ne hA (p3A hperm (by decide)) (p3A hperm (by decide)) (p3A hperm (by decide)) (p3A hperm (by decide))) (p3B hperm (by decide)) (p3B hperm (by decide)) (p3B hperm (by decide)) (p3B hperm (by decide))) (by rw [rput_ne (p3AB hperm), rput_rv]; rfl) (by rw [rput_rv]; rfl)
set_option maxRecDepth 100000 in
set_option maxHeartbeats 4000000 in
theorem c_X2_soughtFactor {g : GC} {p m j : Int} {sh : SH} {S : SS} {n a b c : Nat} {Q : Option Value → GA → Nat → Prop} (hW : PlW p sh S m) (hR : PlR p sh S a b c) (hA : Alg p sh S) (hj : -2147483648 ≤ j ∧ j ≤ 2147483647) (hq : Q (some (.int (iI (-(rv S a j) % p)))) (hp g sh S) n) : GCall g mX2_soughtFactor 2 0 0 [gr g 30, .int (iI j)] (hp g sh S) n Q := by
  obtain ⟨h30, p0, p1, p2, p3, p5, p6, h31, h32, hm, hmb, r31, r32, R33, R35⟩ := hW
  obtain ⟨q7, q8, q9, hperm, Ra, Rb, Rc⟩ := hR
  have hpb := hA.1.bd
  have hrs1 := hA.2.1.1
  have ha1 := Ra.1.1
  have hx := Ra.2.2.2.2 j
  refine GCall.of (by decide) (Nat.le_of_ble_eq_true rfl) (ls := [(0, _), (1, _)]) rfl ?_
  refine S_aload_n (pc := 0) dX2_soughtFactor_0 rfl ?_
  refine S_getR (pc := 1) dX2_soughtFactor_1 fX2_39 (by assumption) rfl (by assumption) ?_
  refine S_aload_n (pc := 4) dX2_soughtFactor_4 rfl ?_
  refine S_getR (pc := 5) dX2_soughtFactor_5 fX2_30 (by assumption) rfl (by assumption) ?_
  refine G_iload_n (pc := 8) dX2_soughtFactor_8 rfl ?_
  refine S_callV (pc := 9) (ci := 4) (d2 := 1) (mc2 := 0) (ms2 := 0) (As := [_]) dX2_soughtFactor_9 kX4_get lkX2_78 (by assumption) rfl rfl rfl (Nat.le_of_ble_eq_true rfl) ⟨by decide, by decide⟩ (by decide) ?_
  refine c_X4_get Ra hj ?_
  show G _ _ _ _ _ _ _ _ _ _ _ _ _
  refine G_ineg (pc := 12) dX2_soughtFactor_12 ?_
  refine G_i2l (pc := 13) dX2_soughtFactor_13 (by omega) ?_
  refine S_callV (pc := 14) (ci := 3) (d2 := 1) (mc2 := 0) (ms2 := 0) (As := [_]) dX2_soughtFactor_14 kX3_rest lkX2_81 (by assumption) rfl rfl rfl (Nat.le_of_ble_eq_true rfl) ⟨by decide, by decide⟩ (by decide) ?_
  refine c_X3_rest hA.2.1 hA.1 (by omega) ?_
  show G _ _ _ _ _ _ _ _ _ _ _ _ _
  refine G_iret (pc := 17) dX2_soughtFactor_17 rfl (by decide) ?_
  exact hq
