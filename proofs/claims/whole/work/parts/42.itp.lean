/-! Places: interpolated, nearest -/
/-- passes of moving, as many as are wanted -/
def pmo (p x : Int) (F : Int → Int) (w : Int) : Int → Int := mvout p x (plen F 64) F (if w < plen F 64 - 1 then (if w < 0 then 0 else w) else (if plen F 64 - 1 < 0 then 0 else plen F 64 - 1)).toNat
/-- FILLED and the nodes' product behind t places -/
def itp (p : Int) (xs vs : Int → Int) : Nat → (Int → Int) × (Int → Int)
  | 0 => (pz, one)
  | t + 1 =>
    let y := itp p xs vs t
    let k := tah xs t t
    (padd p y.1 ((vs t - pmo p (xs t) y.1 (k + 1) k) % p * inv p (pmo p (xs t) y.2 (k + 1) k) % p) y.2 0, pmul p y.2 (line p (xs t)))
theorem itp_ok {p : Int} {xs vs : Int → Int} (hP : IsP p) : ∀ t : Nat, t ≤ 16 → Sup (itp p xs vs t).1 64 ∧ Red p (itp p xs vs t).1 ∧ Sup (itp p xs vs t).2 64 ∧ Red p (itp p xs vs t).2 ∧ plen (itp p xs vs t).2 64 ≤ t + 1
  | 0, _ => by
    have hb := hP.bd
    exact ⟨Sup_pz, Red_pz (by omega), one_sup (by decide), one_red hP, plen_le (by omega) (fun j h1 h2 => by show iup pz 0 1 j = 0; rw [iup_ne (by omega)]; rfl)⟩
  | t + 1, ht => by
    have hb := hP.bd
    obtain ⟨h1, h2, h3, h4, h5⟩ := itp_ok (xs := xs) (vs := vs) hP t (by omega)
    have h6 : plen (pmul p (itp p xs vs t).2 (line p (xs t))) 64 ≤ t + 2 := plen_le (by omega) (fun j hj _ => pmul_out (la := t + 1) (lb := 2) (fun j hj => Sup_len h3 (by omega)) (fun j hj => line_sup j (Or.inr hj)) (by omega))
    refine ⟨padd_sup (la := 64) h2 h1 (Int.le_refl _) h3 (by omega), padd_red (by omega), pmul_sup (la := t + 1) (lb := 2) (fun j hj => Sup_len h3 (by omega)) (fun j hj => line_sup j (Or.inr hj)) (by omega), pmul_red (by omega), ?_⟩
    show plen (pmul p (itp p xs vs t).2 (line p (xs t))) 64 ≤ _
    omega
def PlD (a : Nat) : Prop := (13 ≤ a ∧ a ≤ 29) ∨ (33 ≤ a ∧ a ≤ 36)
theorem plD {a : Nat} (h : (13 ≤ a ∧ a ≤ 29) ∨ (33 ≤ a ∧ a ≤ 36)) : PlD a := h
theorem PlW_33 {p m : Int} {sh : SH} {S : SS} {xs : Int → Int} (h : PlW p sh S m) (h1 : Sup xs 64) (h2 : Red p xs) : PlW p sh (rput S 33 xs 64) m := by
  obtain ⟨h30, p0, p1, p2, p3, p5, p6, h31, h32, hm, hmb, r31, r32, R33, R35⟩ := h
  refine ⟨h30, p0, p1, p2, p3, p5, p6, h31, h32, ?_, hmb, ?_, ?_, Row_put R33 h1 h2, Row_ne R35 (by decide)⟩
  · rw [rput_F (Or.inl (by decide))]; exact hm
  · rw [rput_A (by decide)]; exact r31
  · rw [rput_A (by decide)]; exact r32
theorem PlW_35 {p m : Int} {sh : SH} {S : SS} {xs : Int → Int} (h : PlW p sh S m) (h1 : Sup xs 64) (h2 : Red p xs) : PlW p sh (rput S 35 xs 64) m := by
  obtain ⟨h30, p0, p1, p2, p3, p5, p6, h31, h32, hm, hmb, r31, r32, R33, R35⟩ := h
  refine ⟨h30, p0, p1, p2, p3, p5, p6, h31, h32, ?_, hmb, ?_, ?_, Row_ne R33 (by decide), Row_put R35 h1 h2⟩
  · rw [rput_F (Or.inl (by decide))]; exact hm
  · rw [rput_A (by decide)]; exact r31
  · rw [rput_A (by decide)]; exact r32
theorem PlW_20 {p m : Int} {sh : SH} {S : SS} {xs : Int → Int} (h : PlW p sh S m) : PlW p sh (rput S 20 xs 2) m := by
  obtain ⟨h30, p0, p1, p2, p3, p5, p6, h31, h32, hm, hmb, r31, r32, R33, R35⟩ := h
  refine ⟨h30, p0, p1, p2, p3, p5, p6, h31, h32, ?_, hmb, ?_, ?_, Row_ne R33 (by decide), Row_ne R35 (by decide)⟩
  · rw [rput_F (Or.inl (by decide))]; exact hm
  · rw [rput_A (by decide)]; exact r31
  · rw [rput_A (by decide)]; exact r32
theorem pmo_of {p x w : Int} {F : Int → Int} {e : Nat} (he : (e : Int) = (if w < plen F 64 - 1 then (if w < 0 then 0 else w) else (if plen F 64 - 1 < 0 then 0 else plen F 64 - 1))) : mvout p x (plen F 64) F e = pmo p x F w := by
  unfold pmo
  rw [← he]; rfl
theorem pmo_ok {p x w : Int} {F : Int → Int} (hp : 0 < p) (h1 : Sup F 64) (h2 : Red p F) : Sup (pmo p x F w) 64 ∧ Red p (pmo p x F w) := by
  have hb := plen_bd F 64
  unfold pmo
  refine ⟨?_, mvout_red hp h2 _⟩
  by_cases h0 : plen F 64 - 1 < 0
  · have e : (if w < plen F 64 - 1 then (if w < 0 then 0 else w) else (if plen F 64 - 1 < 0 then 0 else plen F 64 - 1)).toNat = 0 := by
      by_cases c1 : w < plen F 64 - 1
      · rw [if_pos c1, if_pos (by omega)]; rfl
      · rw [if_neg c1, if_pos h0]; rfl
    rw [e]; exact h1
  · refine mvout_sup h1 hb.2 _ ?_
    by_cases c1 : w < plen F 64 - 1
    · rw [if_pos c1]
      by_cases c2 : w < 0
      · rw [if_pos c2]; omega
      · rw [if_neg c2]; omega
    · rw [if_neg c1, if_neg h0]; omega
set_option maxRecDepth 100000 in
set_option maxHeartbeats 4000000 in
theorem l_X2_interpolated {g : GC} {p m : Int} {sh : SH} {S0 : SS} {n o w f v : Nat} {Q : Option Value → GA → Nat → Prop} (hP : IsP p)
    (hq : ∀ S : SS, Same PlD S0 S → PlW p sh S m → Alg p sh S → EuP p sh S o w f v → rv S 33 = (itp p (S0.2.1 31) (S0.2.1 32) m.toNat).1 → rv S 35 = (itp p (S0.2.1 31) (S0.2.1 32) m.toNat).2 → Q (some (gr g 33)) (hp g sh S) n) :
    ∀ (k t : Nat) (S : SS), t + k = m → Same PlD S0 S → PlW p sh S m → Alg p sh S → EuP p sh S o w f v → rv S 33 = (itp p (S0.2.1 31) (S0.2.1 32) t).1 → rv S 35 = (itp p (S0.2.1 31) (S0.2.1 32) t).2 →
    G g mX2_interpolated 5 0 0 25 [(1, .int (iI t)), (0, gr g 30)] [] (hp g sh S) n 0 0 Q := by
  have hpb := hP.bd
  intro k
  induction k with
  | zero =>
    intro t S ht hS hW hA hE v33 v35
    have hW' := hW
    obtain ⟨h30, p0, p1, p2, p3, p5, p6, h31, h32, hm, hmb, r31, r32, R33, R35⟩ := hW'
    refine G_iload_n (pc := 25) dX2_interpolated_25 rfl ?_
    refine S_aload_n (pc := 26) dX2_interpolated_26 rfl ?_
    refine S_getI (pc := 27) dX2_interpolated_27 fX2_47 (by assumption) rfl ?_
    rw [hm]
    refine G_icmp_ge_t (pc := 30) 168 dX2_interpolated_30 rfl (by omega) (by omega) ?_
    refine S_aload_n (pc := 168) dX2_interpolated_168 rfl ?_
    refine S_getR (pc := 169) dX2_interpolated_169 fX2_23 (by assumption) rfl (by assumption) ?_
    refine G_aret (pc := 172) dX2_interpolated_172 rfl (by decide) ?_
    rw [show t = m.toNat by omega] at v33 v35
    exact hq S hS hW hA hE v33 v35
  | succ k ih =>
    intro t S ht hS hW hA hE v33 v35
    have hW' := hW
    obtain ⟨h30, p0, p1, p2, p3, p5, p6, h31, h32, hm, hmb, r31, r32, R33, R35⟩ := hW'
    have hrs1 := hA.2.1.1
    have h181 := hA.2.2.2.2.2.2.2.2.2.2.1.1.1
    have h13 := hA.2.2.1
    have hA0 := hA.2.2.2.1
    have h351 := R35.1.1
    have e31 : S.2.1 31 = S0.2.1 31 := hS.2.1 31 (fun z => by unfold PlD at z; omega)
    have e32 : S.2.1 32 = S0.2.1 32 := hS.2.1 32 (fun z => by unfold PlD at z; omega)
    obtain ⟨k1, k2, k3, k4, k5⟩ := itp_ok (xs := S0.2.1 31) (vs := S0.2.1 32) hP t (by omega)
    have hx := r31 t
    have hv := r32 t
    have i31 : itm (S.2.1 31) m t = S0.2.1 31 t := by rw [itm_in (by omega), e31]
    have i32 : itm (S.2.1 32) m t = S0.2.1 32 t := by rw [itm_in (by omega), e32]
    rw [e31] at hx
    rw [e32] at hv
    have htk := tah_bd (xs := S0.2.1 31) (pl := t) t
    have etah : tah (S.2.1 31) (t : Int) (t : Int).toNat = tah (S0.2.1 31) t t := by rw [e31]; rfl
    have L33 : S.1 33 1 = plen (itp p (S0.2.1 31) (S0.2.1 32) t).1 64 := by rw [R33.2.2.1, v33]
    have L35 : S.1 35 1 = plen (itp p (S0.2.1 31) (S0.2.1 32) t).2 64 := by rw [R35.2.2.1, v35]
    have m1 := pmo_ok (p := p) (x := S0.2.1 31 t) (w := tah (S0.2.1 31) t t + 1) (by omega) k1 k2
    have m2 := pmo_ok (p := p) (x := S0.2.1 31 t) (w := tah (S0.2.1 31) t t + 1) (by omega) k3 k4
    have A1 : Alg p sh (rput S 18 (pmo p (S0.2.1 31 t) (itp p (S0.2.1 31) (S0.2.1 32) t).1 (tah (S0.2.1 31) t t + 1)) 64) := Alg_18 hA m1.1 m1.2
    have hg1 := m1.2 (tah (S0.2.1 31) t t)
    have hg2 := m2.2 (tah (S0.2.1 31) t t)
    have R35b : Row p sh (rput S 18 (pmo p (S0.2.1 31 t) (itp p (S0.2.1 31) (S0.2.1 32) t).1 (tah (S0.2.1 31) t t + 1)) 64) 35 64 := Row_ne R35 (by decide)
    have v35b : rv (rput S 18 (pmo p (S0.2.1 31 t) (itp p (S0.2.1 31) (S0.2.1 32) t).1 (tah (S0.2.1 31) t t + 1)) 64) 35 = (itp p (S0.2.1 31) (S0.2.1 32) t).2 := by rw [rput_ne (by decide), v35]
    have L35b : (rput S 18 (pmo p (S0.2.1 31 t) (itp p (S0.2.1 31) (S0.2.1 32) t).1 (tah (S0.2.1 31) t t + 1)) 64).1 35 1 = plen (itp p (S0.2.1 31) (S0.2.1 32) t).2 64 := by rw [rput_F (Or.inl (by decide)), L35]
    have A2 : Alg p sh (rput S 18 (pmo p (S0.2.1 31 t) (itp p (S0.2.1 31) (S0.2.1 32) t).2 (tah (S0.2.1 31) t t + 1)) 64) := Alg_18 hA m2.1 m2.2
    have R33c : Row p sh (rput S 18 (pmo p (S0.2.1 31 t) (itp p (S0.2.1 31) (S0.2.1 32) t).2 (tah (S0.2.1 31) t t + 1)) 64) 33 64 := Row_ne R33 (by decide)
    have R35c : Row p sh (rput S 18 (pmo p (S0.2.1 31 t) (itp p (S0.2.1 31) (S0.2.1 32) t).2 (tah (S0.2.1 31) t t + 1)) 64) 35 64 := Row_ne R35 (by decide)
    have v33c : rv (rput S 18 (pmo p (S0.2.1 31 t) (itp p (S0.2.1 31) (S0.2.1 32) t).2 (tah (S0.2.1 31) t t + 1)) 64) 33 = (itp p (S0.2.1 31) (S0.2.1 32) t).1 := by rw [rput_ne (by decide), v33]
    have v35c : rv (rput S 18 (pmo p (S0.2.1 31 t) (itp p (S0.2.1 31) (S0.2.1 32) t).2 (tah (S0.2.1 31) t t + 1)) 64) 35 = (itp p (S0.2.1 31) (S0.2.1 32) t).2 := by rw [rput_ne (by decide), v35]
    have L35c : (rput S 18 (pmo p (S0.2.1 31 t) (itp p (S0.2.1 31) (S0.2.1 32) t).2 (tah (S0.2.1 31) t t + 1)) 64).1 35 1 = plen (itp p (S0.2.1 31) (S0.2.1 32) t).2 64 := by rw [rput_F (Or.inl (by decide)), L35]
    have hem1 := em_bd (z := S0.2.1 32 t - pmo p (S0.2.1 31 t) (itp p (S0.2.1 31) (S0.2.1 32) t).1 (tah (S0.2.1 31) t t + 1) (tah (S0.2.1 31) t t)) (p := p) (by omega)
    have hib := inv_bd (x := pmo p (S0.2.1 31 t) (itp p (S0.2.1 31) (S0.2.1 32) t).2 (tah (S0.2.1 31) t t + 1) (tah (S0.2.1 31) t t)) hP
    have hem2 := em_bd (z := (S0.2.1 32 t - pmo p (S0.2.1 31 t) (itp p (S0.2.1 31) (S0.2.1 32) t).1 (tah (S0.2.1 31) t t + 1) (tah (S0.2.1 31) t t)) % p * inv p (pmo p (S0.2.1 31 t) (itp p (S0.2.1 31) (S0.2.1 32) t).2 (tah (S0.2.1 31) t t + 1) (tah (S0.2.1 31) t t))) (p := p) (by omega)
    obtain ⟨n1, n2, n3, n4, n5⟩ := itp_ok (xs := S0.2.1 31) (vs := S0.2.1 32) hP (t + 1) (by omega)
    have hrest : ∀ F' : Int → Int, F' = (itp p (S0.2.1 31) (S0.2.1 32) (t + 1)).1 → ∀ S3 : SS, S3 = rput (rput S 18 (pmo p (S0.2.1 31 t) (itp p (S0.2.1 31) (S0.2.1 32) t).2 (tah (S0.2.1 31) t t + 1)) 64) 33 F' 64 → G g mX2_interpolated 5 0 0 136 [(1, .int (iI t)), (0, gr g 30), (2, .int (iI (S0.2.1 31 t)))] [] (hp g sh S3) n 0 0 Q := by
      intro F' hF' S3 hS3
      have A3 : Alg p sh S3 := by rw [hS3]; exact Alg_ne A2 (by decide) (by decide) (by decide) (by decide)
      have E3 : EuP p sh S3 o w f v := by rw [hS3]; exact EuP_ne (EuP_ne hE (pAll hE.2.2.2.2.1 (by decide))) (pAll hE.2.2.2.2.1 (by decide))
      have W3 : PlW p sh S3 m := by rw [hS3]; exact PlW_33 (PlW_put hW (by decide)) (by rw [hF']; exact n1) (by rw [hF']; exact n2)
      have Ss3 : Same PlD S0 S3 := by rw [hS3]; exact Same_put (Same_put hS (plD (by decide)) (plD (by decide))) (plD (by decide)) (plD (by decide))
      have v333 : rv S3 33 = (itp p (S0.2.1 31) (S0.2.1 32) (t + 1)).1 := by rw [hS3, rput_rv, hF']
      have v353 : rv S3 35 = (itp p (S0.2.1 31) (S0.2.1 32) t).2 := by rw [hS3, rput_ne (by decide), v35c]
      have q30 := W3.2.1
      have q1 := W3.2.2.1
      have q6 := W3.2.2.2.2.2.2.1
      have R35 := W3.2.2.2.2.2.2.2.2.2.2.2.2.2.2
      have A4 : Alg p sh (rput S3 20 (line p (S0.2.1 31 t)) 2) := Alg_20 A3 line_sup (line_red hP)
      have R354 : Row p sh (rput S3 20 (line p (S0.2.1 31 t)) 2) 35 64 := Row_ne R35 (by decide)
      have l35 : (rput S3 20 (line p (S0.2.1 31 t)) 2).1 35 1 = plen (itp p (S0.2.1 31) (S0.2.1 32) t).2 64 := by rw [rput_F (Or.inl (by decide)), R35.2.2.1, v353]
      have l20 : (rput S3 20 (line p (S0.2.1 31 t)) 2).1 20 1 = 2 := by rw [rput_L, line_len]
      have w35 : rv (rput S3 20 (line p (S0.2.1 31 t)) 2) 35 = (itp p (S0.2.1 31) (S0.2.1 32) t).2 := by rw [rput_ne (by decide), v353]
      have w20 : rv (rput S3 20 (line p (S0.2.1 31 t)) 2) 20 = line p (S0.2.1 31 t) := rput_rv
      refine S_aload_n (pc := 136) dX2_interpolated_136 rfl ?_
      refine S_getR (pc := 137) dX2_interpolated_137 fX2_27 (by assumption) rfl (by assumption) ?_
      refine S_aload_n (pc := 140) dX2_interpolated_140 rfl ?_
      refine S_getR (pc := 141) dX2_interpolated_141 fX2_43 (by assumption) rfl (by assumption) ?_
      refine S_aload_n (pc := 144) dX2_interpolated_144 rfl ?_
      refine S_getR (pc := 145) dX2_interpolated_145 fX2_27 (by assumption) rfl (by assumption) ?_
      refine S_aload_n (pc := 148) dX2_interpolated_148 rfl ?_
      refine S_getR (pc := 149) dX2_interpolated_149 fX2_43 (by assumption) rfl (by assumption) ?_
      refine G_iload_n (pc := 152) dX2_interpolated_152 rfl ?_
      refine S_callV (pc := 153) (ci := 0) (d2 := 2) (mc2 := 0) (ms2 := 0) (As := [_]) dX2_interpolated_153 kX0_lineAt lkX2_98 (by assumption) rfl rfl rfl (Nat.le_of_ble_eq_true rfl) ⟨by decide, by decide⟩ (by decide) ?_
      refine c_X0_lineAt A3 hx ?_
      show G _ _ _ _ _ _ _ _ _ _ _ _ _
      refine S_callV (pc := 156) (ci := 0) (d2 := 3) (mc2 := 0) (ms2 := 0) (As := [_, _]) dX2_interpolated_156 kX0_multiplied lkX2_102 (by assumption) rfl rfl rfl (Nat.le_of_ble_eq_true rfl) ⟨by decide, by decide⟩ (by decide) ?_
      refine c_X0_multiplied A4 R354 A4.2.2.2.2.2.2.2.2.2.2.2 (by decide) (by decide) (by rw [l35, l20]; omega) ?_
      rw [w35, w20]
      show G _ _ _ _ _ _ _ _ (hp g sh (rput (rput S3 20 (line p (S0.2.1 31 t)) 2) 14 (itp p (S0.2.1 31) (S0.2.1 32) (t + 1)).2 64)) _ _ _ _
      show G _ _ _ _ _ _ _ _ _ _ _ _ _
      refine S_callV (pc := 159) (ci := 4) (d2 := 3) (mc2 := 0) (ms2 := 0) (As := [_]) dX2_interpolated_159 kX4_copy lkX2_106 (by assumption) rfl rfl rfl (Nat.le_of_ble_eq_true rfl) ⟨by decide, by decide⟩ (by decide) ?_
      refine c_X4_copy (Row_ne R354 (by decide)) (Row_put A4.2.2.2.2.2.2.2.2.1 n3 n4) (by decide) (by omega) ?_
      rw [rput_rv, clip_id n3]
      show G _ _ _ _ _ _ _ _ _ _ _ _ _
      refine G_iinc (pc := 162) (ls' := [(1, _), (0, _), (2, _)]) dX2_interpolated_162 rfl (by decide) rfl ?_
      refine G_goto (pc := 165) 25 dX2_interpolated_165 rfl ?_
      refine G_ls (ls' := [(1, _), (0, _)]) (lsub_c rfl (lsub_c rfl lsub_n)) ?_
      exact ih (t + 1) _ (by omega) (Same_put (Same_put (Same_put Ss3 (plD (by decide)) (plD (by decide))) (plD (by decide)) (plD (by decide))) (plD (by decide)) (plD (by decide))) (PlW_35 (PlW_put (PlW_20 W3) (by decide)) n3 n4) (Alg_ne (Alg_14 A4 n3 n4) (by decide) (by decide) (by decide) (by decide)) (EuP_ne (EuP_ne (EuP_ne E3 (pAll hE.2.2.2.2.1 (by decide))) (pAll hE.2.2.2.2.1 (by decide))) (pAll hE.2.2.2.2.1 (by decide))) (by rw [rput_ne (by decide), rput_ne (by decide), rput_ne (by decide), v333]) (by rw [rput_rv])
    refine G_iload_n (pc := 25) dX2_interpolated_25 rfl ?_
    refine S_aload_n (pc := 26) dX2_interpolated_26 rfl ?_
    refine S_getI (pc := 27) dX2_interpolated_27 fX2_47 (by assumption) rfl ?_
    rw [hm]
    refine G_icmp_ge_f (pc := 30) 168 dX2_interpolated_30 rfl (by omega) (by omega) ?_
    refine S_aload_n (pc := 33) dX2_interpolated_33 rfl ?_
    refine G_iload_n (pc := 34) dX2_interpolated_34 rfl ?_
    refine S_callV (pc := 35) (ci := 2) (d2 := 2) (mc2 := 0) (ms2 := 0) (As := [_]) dX2_interpolated_35 kX2_numberOf lkX2_55 (by assumption) rfl rfl rfl (Nat.le_of_ble_eq_true rfl) ⟨by decide, by decide⟩ (by decide) ?_
    refine c_X2_numberOf hW (by omega) ?_
    rw [i31]
    show G _ _ _ _ _ _ _ _ _ _ _ _ _
    refine G_istore_n (pc := 38) (ls' := [(2, _), (1, _), (0, _)]) dX2_interpolated_38 (by decide) rfl ?_
    refine S_aload_n (pc := 39) dX2_interpolated_39 rfl ?_
    refine G_iload_n (pc := 40) dX2_interpolated_40 rfl ?_
    refine S_callV (pc := 41) (ci := 2) (d2 := 3) (mc2 := 0) (ms2 := 0) (As := [_]) dX2_interpolated_41 kX2_timesAhead lkX2_59 (by assumption) rfl rfl rfl (Nat.le_of_ble_eq_true rfl) ⟨by decide, by decide⟩ (by decide) ?_
    refine c_X2_timesAhead hW hP (by omega) ?_
    rw [etah]
    show G _ _ _ _ _ _ _ _ _ _ _ _ _
    refine G_istore_n (pc := 44) (ls' := [(3, _), (2, _), (1, _), (0, _)]) dX2_interpolated_44 (by decide) rfl ?_
    refine S_aload_n (pc := 45) dX2_interpolated_45 rfl ?_
    refine S_getR (pc := 46) dX2_interpolated_46 fX2_39 (by assumption) rfl (by assumption) ?_
    refine S_aload_n (pc := 49) dX2_interpolated_49 rfl ?_
    refine G_iload_n (pc := 50) dX2_interpolated_50 rfl ?_
    refine S_callV (pc := 51) (ci := 2) (d2 := 2) (mc2 := 0) (ms2 := 0) (As := [_]) dX2_interpolated_51 kX2_valueOf lkX2_69 (by assumption) rfl rfl rfl (Nat.le_of_ble_eq_true rfl) ⟨by decide, by decide⟩ (by decide) ?_
    refine c_X2_valueOf hW (by omega) ?_
    rw [i32]
    show G _ _ _ _ _ _ _ _ _ _ _ _ _
    refine G_i2l (pc := 54) dX2_interpolated_54 (by omega) ?_
    refine S_aload_n (pc := 55) dX2_interpolated_55 rfl ?_
    refine S_getR (pc := 56) dX2_interpolated_56 fX2_43 (by assumption) rfl (by assumption) ?_
    refine S_aload_n (pc := 59) dX2_interpolated_59 rfl ?_
    refine S_getR (pc := 60) dX2_interpolated_60 fX2_23 (by assumption) rfl (by assumption) ?_
    refine G_iload_n (pc := 63) dX2_interpolated_63 rfl ?_
    refine G_iload_n (pc := 64) dX2_interpolated_64 rfl ?_
    refine G_iconst (pc := 65) dX2_interpolated_65 ?_
    refine G_iadd (pc := 66) dX2_interpolated_66 ?_
    refine S_callV (pc := 67) (ci := 0) (d2 := 4) (mc2 := 0) (ms2 := 0) (As := [_, _, _]) dX2_interpolated_67 kX0_partMoved lkX2_72 (by assumption) rfl rfl rfl (Nat.le_of_ble_eq_true rfl) ⟨by decide, by decide⟩ (by decide) ?_
    refine c_X0_partMoved hA R33 (by decide) hx (by omega) (fun e he => ?_)
    rw [L33] at he ⊢
    rw [v33, pmo_of he]
    show G _ _ _ _ _ _ _ _ _ _ _ _ _
    refine G_iload_n (pc := 70) dX2_interpolated_70 rfl ?_
    refine S_callV (pc := 71) (ci := 4) (d2 := 1) (mc2 := 0) (ms2 := 0) (As := [_]) dX2_interpolated_71 kX4_get lkX2_78 (by assumption) rfl rfl rfl (Nat.le_of_ble_eq_true rfl) ⟨by decide, by decide⟩ (by decide) ?_
    refine c_X4_get A1.2.2.2.2.2.2.2.2.2.2.1 (by omega) ?_
    rw [rput_rv]
    show G _ _ _ _ _ _ _ _ _ _ _ _ _
    refine G_i2l (pc := 74) dX2_interpolated_74 (by omega) ?_
    refine G_lsub (pc := 75) dX2_interpolated_75 ?_
    refine S_callV (pc := 76) (ci := 3) (d2 := 1) (mc2 := 0) (ms2 := 0) (As := [_]) dX2_interpolated_76 kX3_rest lkX2_81 (by assumption) rfl rfl rfl (Nat.le_of_ble_eq_true rfl) ⟨by decide, by decide⟩ (by decide) ?_
    refine c_X3_rest A1.2.1 hP (by omega) ?_
    show G _ _ _ _ _ _ _ _ _ _ _ _ _
    refine G_istore (pc := 79) (ls' := [(4, _), (3, _), (2, _), (1, _), (0, _)]) dX2_interpolated_79 (by decide) rfl ?_
    refine S_aload_n (pc := 81) dX2_interpolated_81 rfl ?_
    refine S_getR (pc := 82) dX2_interpolated_82 fX2_43 (by assumption) rfl (by assumption) ?_
    refine S_aload_n (pc := 85) dX2_interpolated_85 rfl ?_
    refine S_getR (pc := 86) dX2_interpolated_86 fX2_27 (by assumption) rfl (by assumption) ?_
    refine G_iload_n (pc := 89) dX2_interpolated_89 rfl ?_
    refine G_iload_n (pc := 90) dX2_interpolated_90 rfl ?_
    refine G_iconst (pc := 91) dX2_interpolated_91 ?_
    refine G_iadd (pc := 92) dX2_interpolated_92 ?_
    refine S_callV (pc := 93) (ci := 0) (d2 := 4) (mc2 := 0) (ms2 := 0) (As := [_, _, _]) dX2_interpolated_93 kX0_partMoved lkX2_72 (by assumption) rfl rfl rfl (Nat.le_of_ble_eq_true rfl) ⟨by decide, by decide⟩ (by decide) ?_
    refine c_X0_partMoved A1 R35b (by decide) hx (by omega) (fun e he => ?_)
    rw [L35b] at he ⊢
    rw [v35b, pmo_of he, rput_rput]
    show G _ _ _ _ _ _ _ _ _ _ _ _ _
    refine G_iload_n (pc := 96) dX2_interpolated_96 rfl ?_
    refine S_callV (pc := 97) (ci := 4) (d2 := 1) (mc2 := 0) (ms2 := 0) (As := [_]) dX2_interpolated_97 kX4_get lkX2_78 (by assumption) rfl rfl rfl (Nat.le_of_ble_eq_true rfl) ⟨by decide, by decide⟩ (by decide) ?_
    refine c_X4_get A2.2.2.2.2.2.2.2.2.2.2.1 (by omega) ?_
    rw [rput_rv]
    show G _ _ _ _ _ _ _ _ _ _ _ _ _
    refine G_istore (pc := 100) (ls' := [(5, _), (4, _), (3, _), (2, _), (1, _), (0, _)]) dX2_interpolated_100 (by decide) rfl ?_
    refine S_aload_n (pc := 102) dX2_interpolated_102 rfl ?_
    refine S_getR (pc := 103) dX2_interpolated_103 fX2_43 (by assumption) rfl (by assumption) ?_
    refine S_aload_n (pc := 106) dX2_interpolated_106 rfl ?_
    refine S_getR (pc := 107) dX2_interpolated_107 fX2_23 (by assumption) rfl (by assumption) ?_
    refine S_aload_n (pc := 110) dX2_interpolated_110 rfl ?_
    refine S_getR (pc := 111) dX2_interpolated_111 fX2_39 (by assumption) rfl (by assumption) ?_
    refine G_iload (pc := 114) dX2_interpolated_114 rfl ?_
    refine S_aload_n (pc := 116) dX2_interpolated_116 rfl ?_
    refine S_getR (pc := 117) dX2_interpolated_117 fX2_39 (by assumption) rfl (by assumption) ?_
    refine G_iload (pc := 120) dX2_interpolated_120 rfl ?_
    refine S_callV (pc := 122) (ci := 3) (d2 := 3) (mc2 := 0) (ms2 := 0) (As := [_]) dX2_interpolated_122 kX3_inverse lkX2_87 (by assumption) rfl rfl rfl (Nat.le_of_ble_eq_true rfl) ⟨by decide, by decide⟩ (by decide) ?_
    refine c_X3_inverse A2.2.1 hP hg2 ?_
    show G _ _ _ _ _ _ _ _ _ _ _ _ _
    refine S_callV (pc := 125) (ci := 3) (d2 := 1) (mc2 := 0) (ms2 := 0) (As := [_, _]) dX2_interpolated_125 kX3_product lkX2_90 (by assumption) rfl rfl rfl (Nat.le_of_ble_eq_true rfl) ⟨by decide, by decide⟩ (by decide) ?_
    refine c_X3_product A2.2.1 hP hem1 hib ?_
    show G _ _ _ _ _ _ _ _ _ _ _ _ _
    refine S_aload_n (pc := 128) dX2_interpolated_128 rfl ?_
    refine S_getR (pc := 129) dX2_interpolated_129 fX2_27 (by assumption) rfl (by assumption) ?_
    refine G_iconst (pc := 132) dX2_interpolated_132 ?_
    refine S_callV (pc := 133) (ci := 0) (d2 := 2) (mc2 := 0) (ms2 := 0) (As := [_, _, _, _]) dX2_interpolated_133 kX0_addMultiple lkX2_94 (by assumption) rfl rfl rfl (Nat.le_of_ble_eq_true rfl) ⟨by decide, by decide⟩ (by decide) ?_
    refine c_X0_addMultiple hP A2.2.1 h13 hA0 R33c R35c (by decide) (by omega) (by omega) (by rw [L35c]; omega) ?_
    rw [v33c, v35c]
    show G _ _ _ _ _ _ _ _ _ _ _ _ _
    refine G_ls (ls' := [(1, _), (0, _), (2, _)]) (lsub_c rfl (lsub_c rfl (lsub_c rfl lsub_n))) ?_
    exact hrest _ rfl _ rfl
set_option maxRecDepth 100000 in
set_option maxHeartbeats 4000000 in
theorem c_X2_interpolated {g : GC} {p m : Int} {sh : SH} {S : SS} {n o w f v : Nat} {Q : Option Value → GA → Nat → Prop} (hW : PlW p sh S m) (hA : Alg p sh S) (hE : EuP p sh S o w f v)
    (hq : ∀ S' : SS, Same PlD S S' → PlW p sh S' m → Alg p sh S' → EuP p sh S' o w f v → rv S' 33 = (itp p (S.2.1 31) (S.2.1 32) m.toNat).1 → rv S' 35 = (itp p (S.2.1 31) (S.2.1 32) m.toNat).2 → Q (some (gr g 33)) (hp g sh S') n) : GCall g mX2_interpolated 5 0 0 [gr g 30] (hp g sh S) n Q := by
  have hW' := hW
  obtain ⟨h30, p0, p1, p2, p3, p5, p6, h31, h32, hm, hmb, r31, r32, R33, R35⟩ := hW'
  have hpb := hA.1.bd
  have h331 := R33.1.1
  have h351 := R35.1.1
  have R351 : Row p sh (rput S 33 pz 64) 35 64 := Row_ne R35 (by decide)
  have R352 : Row p sh (rput (rput S 33 pz 64) 35 pz 64) 35 64 := Row_put R351 Sup_pz (Red_pz (by omega))
  refine GCall.of (by decide) (Nat.le_of_ble_eq_true rfl) (ls := [(0, _)]) rfl ?_
  refine S_aload_n (pc := 0) dX2_interpolated_0 rfl ?_
  refine S_getR (pc := 1) dX2_interpolated_1 fX2_23 (by assumption) rfl (by assumption) ?_
  refine S_callV (pc := 4) (ci := 4) (d2 := 1) (mc2 := 0) (ms2 := 0) (As := []) dX2_interpolated_4 kX4_wipe lkX2_62 (by assumption) rfl rfl rfl (Nat.le_of_ble_eq_true rfl) ⟨by decide, by decide⟩ (by decide) ?_
  refine c_X4_wipe R33 ?_
  show G _ _ _ _ _ _ _ _ _ _ _ _ _
  refine S_aload_n (pc := 7) dX2_interpolated_7 rfl ?_
  refine S_getR (pc := 8) dX2_interpolated_8 fX2_27 (by assumption) rfl (by assumption) ?_
  refine S_callV (pc := 11) (ci := 4) (d2 := 1) (mc2 := 0) (ms2 := 0) (As := []) dX2_interpolated_11 kX4_wipe lkX2_62 (by assumption) rfl rfl rfl (Nat.le_of_ble_eq_true rfl) ⟨by decide, by decide⟩ (by decide) ?_
  refine c_X4_wipe R351 ?_
  show G _ _ _ _ _ _ _ _ _ _ _ _ _
  refine S_aload_n (pc := 14) dX2_interpolated_14 rfl ?_
  refine S_getR (pc := 15) dX2_interpolated_15 fX2_27 (by assumption) rfl (by assumption) ?_
  refine G_iconst (pc := 18) dX2_interpolated_18 ?_
  refine G_iconst (pc := 19) dX2_interpolated_19 ?_
  refine S_callV (pc := 20) (ci := 4) (d2 := 1) (mc2 := 0) (ms2 := 0) (As := [_, _]) dX2_interpolated_20 kX4_set lkX2_65 (by assumption) rfl rfl rfl (Nat.le_of_ble_eq_true rfl) ⟨by decide, by decide⟩ (by decide) ?_
  refine c_X4_set R352 hpb.2 (by omega) (by omega) ?_
  rw [rput_rv, rput_rput]
  show G _ _ _ _ _ _ _ _ _ _ _ _ _
  refine G_iconst (pc := 23) dX2_interpolated_23 ?_
  refine G_istore_n (pc := 24) (ls' := [(1, _), (0, _)]) dX2_interpolated_24 (by decide) rfl ?_
  exact l_X2_interpolated (S0 := S) hA.1 hq m.toNat 0 (rput (rput S 33 pz 64) 35 one 64) (by omega) (Same_put (Same_put Same_rf (plD (by decide)) (plD (by decide))) (plD (by decide)) (plD (by decide))) (PlW_35 (PlW_33 hW Sup_pz (Red_pz (by omega))) (one_sup (by decide)) (one_red hA.1)) (Alg_ne (Alg_ne hA (by decide) (by decide) (by decide) (by decide)) (by decide) (by decide) (by decide) (by decide)) (EuP_ne (EuP_ne hE (pAll hE.2.2.2.2.1 (by decide))) (pAll hE.2.2.2.2.1 (by decide))) (by rw [rput_ne (by decide), rput_rv]; rfl) (by rw [rput_rv]; rfl)
set_option maxRecDepth 100000 in
set_option maxHeartbeats 4000000 in
theorem c_X2_nearest {g : GC} {p m kk : Int} {sh : SH} {S : SS} {n o w f v : Nat} {Nd F : Int → Int} {Q : Option Value → GA → Nat → Prop} (hW : PlW p sh S m) (hA : Alg p sh S) (hE : EuP p sh S o w f v) (hk : 0 ≤ kk ∧ kk ≤ 16) (hNd : Nd = (itp p (S.2.1 31) (S.2.1 32) m.toNat).2) (hF : F = (itp p (S.2.1 31) (S.2.1 32) m.toNat).1)
    (hroom : ∀ t : Nat, (∀ s : Nat, s ≤ t → (m + kk + 1) / 2 < plen (eu p Nd F s).2.1 64) → t ≤ 62 ∧ plen (pdiv p (eu p Nd F t).1 (eu p Nd F t).2.1 (plen (eu p Nd F t).1 64) (plen (eu p Nd F t).2.1 64)).1 64 + plen (eu p Nd F t).2.2.2 64 ≤ 65)
    (hV : ∀ t : Nat, (∀ s : Nat, s < t → (m + kk + 1) / 2 < plen (eu p Nd F s).2.1 64) → plen (eu p Nd F t).2.1 64 ≤ (m + kk + 1) / 2 → 0 < plen (eu p Nd F t).2.2.2 64)
    (hq : ∀ (t : Nat) (S' : SS), Same PlD S S' → PlW p sh S' m → AlgW p sh S' → (∀ s : Nat, s < t → (m + kk + 1) / 2 < plen (eu p Nd F s).2.1 64) → plen (eu p Nd F t).2.1 64 ≤ (m + kk + 1) / 2 → rv S' 16 = (pdiv p (eu p Nd F t).2.1 (eu p Nd F t).2.2.2 (plen (eu p Nd F t).2.1 64) (plen (eu p Nd F t).2.2.2 64)).1 → Q (some (gr g 16)) (hp g sh S') n) : GCall g mX2_nearest 6 0 0 [gr g 30, .int (iI kk)] (hp g sh S) n Q := by
  have hmb := hW.2.2.2.2.2.2.2.2.2.2.1
  have h30 := hW.1
  have h13 := hA.2.2.1
  refine GCall.of (by decide) (Nat.le_of_ble_eq_true rfl) (ls := [(0, _), (1, _)]) rfl ?_
  have hfin : ∀ (t : Nat) (S1 S' : SS) (o w f v : Nat), PlW p sh S1 m → Same PlD S S1 → Alg p sh S' → Same EuD S1 S' → EuP p sh S' o w f v → EuV S' o w f v (eu p Nd F t) → (∀ s : Nat, s < t → (m + kk + 1) / 2 < plen (eu p Nd F s).2.1 64) → plen (eu p Nd F t).2.1 64 ≤ (m + kk + 1) / 2 → G g mX2_nearest 6 0 0 30 [(0, gr g 30), (1, .int (iI kk))] [] (hp g sh S') n 0 0 Q := by
    intro t S1 S' o w f v W1 SS1 A2 S2 E2 V2 hs ht
    have hPl : PlW p sh S' m := by
      obtain ⟨h30, p0, p1, p2, p3, p5, p6, h31, h32, hm, hmb, r31, r32, R33, R35⟩ := W1
      have nE : ∀ x : Nat, 30 ≤ x → ¬ EuD x := fun x hx z => by unfold EuD at z; omega
      exact ⟨h30, by rw [S2.2.2 30 0 (nE 30 (by decide))]; exact p0, by rw [S2.2.2 30 1 (nE 30 (by decide))]; exact p1, by rw [S2.2.2 30 2 (nE 30 (by decide))]; exact p2, by rw [S2.2.2 30 3 (nE 30 (by decide))]; exact p3, by rw [S2.2.2 30 5 (nE 30 (by decide))]; exact p5, by rw [S2.2.2 30 6 (nE 30 (by decide))]; exact p6, h31, h32, by rw [S2.1 30 4 (nE 30 (by decide))]; exact hm, hmb, by rw [S2.2.1 31 (nE 31 (by decide))]; exact r31, by rw [S2.2.1 32 (nE 32 (by decide))]; exact r32, Same_row S2 (nE 33 (by decide)) (nE 34 (by decide)) R33, Same_row S2 (nE 35 (by decide)) (nE 36 (by decide)) R35⟩
    have q1 := hPl.2.2.1
    have V2' := V2
    obtain ⟨v1, v2, v3, v4⟩ := V2'
    have E2' := E2
    obtain ⟨e5, e6, e7, e8, hperm, ro, rw_, rf, rv_⟩ := E2'
    have hVt := hV t hs ht
    have hwz : ∀ j : Int, (j < 0 ∨ plen (eu p Nd F t).2.1 64 ≤ j) → (eu p Nd F t).2.1 j = 0 := fun j hj => hj.elim (fun h => (v2 ▸ rw_.2.2.2.1) j (Or.inl h)) (fun h => Sup_len (v2 ▸ rw_.2.2.2.1) h)
    have hvz : ∀ j : Int, (j < 0 ∨ plen (eu p Nd F t).2.2.2 64 ≤ j) → (eu p Nd F t).2.2.2 j = 0 := fun j hj => hj.elim (fun h => (v4 ▸ rv_.2.2.2.1) j (Or.inl h)) (fun h => Sup_len (v4 ▸ rv_.2.2.2.1) h)
    have hbw := plen_bd (eu p Nd F t).2.1 64
    have hbv := plen_bd (eu p Nd F t).2.2.2 64
    refine S_aload_n (pc := 30) dX2_nearest_30 rfl ?_
    refine S_getR (pc := 31) dX2_nearest_31 fX2_43 (by assumption) rfl (by assumption) ?_
    refine S_callV (pc := 34) (ci := 0) (d2 := 5) (mc2 := 0) (ms2 := 0) (As := []) dX2_nearest_34 kX0_lastByFactor lkX2_118 (by assumption) rfl rfl rfl (Nat.le_of_ble_eq_true rfl) ⟨by decide, by decide⟩ (by decide) ?_
    refine c_X0_lastByFactor A2 E2 (by rw [v4]; exact hVt) (fun q r hD => ?_)
    rw [v2, v4] at hD
    obtain ⟨eq, er⟩ := DivS_uniq A2.1 hVt (v4 ▸ rv_.2.2.2.2) hvz (plen_lead hVt) hD (pdiv_S A2.1 hVt (v2 ▸ rw_.2.2.2.2) hwz (v4 ▸ rv_.2.2.2.2) hvz (plen_lead hVt))
    have hqs : Sup q 64 := fun j hj => hD.2.2.2.2 j (by omega)
    have hrs' : Sup r 64 := fun j hj => hD.2.2.2.1 j (by omega)
    have A3 : Alg p sh (rput (rput S' w r 64) 16 q 64) := Alg_16 (Alg_ne A2 (pW hperm (by decide)) (pW hperm (by decide)) (pW hperm (by decide)) (pW hperm (by decide))) hqs hD.1
    refine G_aret (pc := 37) dX2_nearest_37 rfl (by decide) ?_
    refine hq t _ ?_ ?_ ⟨A3, o, w, f, v, ?_⟩ hs ht (by rw [rput_rv, eq])
    · have hpd : ∀ x : Nat, AlgD x → PlD x := fun x hx => Or.inl hx
      exact Same_put (Same_put (Same_tr SS1 (Same_mono S2 (fun x hx => hpd x (EuD_Alg hx)))) (hpd _ (aW hperm).1) (hpd _ (aW hperm).2)) (plD (by decide)) (plD (by decide))
    · exact PlW_put (PlW_put hPl (by rcases hperm.2.1 with e | e | e | e <;> rw [e] <;> decide)) (by decide)
    · exact ⟨e5, e6, e7, e8, hperm, Row_ne (Row_ne ro (pOW hperm)) (pO hperm (by decide)), Row_ne (Row_put rw_ hrs' hD.2.1) (pW hperm (by decide)), Row_ne (Row_ne rf (Ne.symm (pWF hperm))) (pF hperm (by decide)), Row_ne (Row_ne rv_ (Ne.symm (pWV hperm))) (pV hperm (by decide))⟩
  have hmid : ∀ S1 : SS, Same PlD S S1 → PlW p sh S1 m → Alg p sh S1 → EuP p sh S1 o w f v → rv S1 33 = F → rv S1 35 = Nd → G g mX2_nearest 6 0 0 5 [(0, gr g 30), (1, .int (iI kk))] [] (hp g sh S1) n 0 0 Q := by
    intro S1 Ss1 W1 A1 E1 v33 v35
    have W1' := W1
    obtain ⟨h30, p0, p1, p2, p3, p5, p6, h31, h32, hm, hmb, r31, r32, R33, R35⟩ := W1'
    refine S_aload_n (pc := 5) dX2_nearest_5 rfl ?_
    refine S_getR (pc := 6) dX2_nearest_6 fX2_43 (by assumption) rfl (by assumption) ?_
    refine S_aload_n (pc := 9) dX2_nearest_9 rfl ?_
    refine S_getR (pc := 10) dX2_nearest_10 fX2_27 (by assumption) rfl (by assumption) ?_
    refine S_aload_n (pc := 13) dX2_nearest_13 rfl ?_
    refine S_getR (pc := 14) dX2_nearest_14 fX2_23 (by assumption) rfl (by assumption) ?_
    refine S_aload_n (pc := 17) dX2_nearest_17 rfl ?_
    refine S_getI (pc := 18) dX2_nearest_18 fX2_47 (by assumption) rfl ?_
    rw [hm]
    refine G_iload_n (pc := 21) dX2_nearest_21 rfl ?_
    refine G_iadd (pc := 22) dX2_nearest_22 ?_
    refine G_iconst (pc := 23) dX2_nearest_23 ?_
    refine G_iadd (pc := 24) dX2_nearest_24 ?_
    refine G_iconst (pc := 25) dX2_nearest_25 ?_
    refine G_idivP (pc := 26) dX2_nearest_26 (by omega) ?_
    refine S_callV (pc := 27) (ci := 0) (d2 := 5) (mc2 := 0) (ms2 := 0) (As := [_, _, _]) dX2_nearest_27 kX0_euclid lkX2_114 (by assumption) rfl rfl rfl (Nat.le_of_ble_eq_true rfl) ⟨by decide, by decide⟩ (by decide) ?_
    refine c_X0_euclid A1 E1 R35 R33 (by unfold EuD; omega) (by unfold EuD; omega) (by omega) (by rw [v33, v35]; exact hroom) ?_
    rw [v33, v35]
    intro t S' o w f v h1 h2 h3 h4 h5 h6
    exact hfin t S1 S' o w f v W1 Ss1 h1 h2 h3 h4 h5 h6
  refine S_aload_n (pc := 0) dX2_nearest_0 rfl ?_
  refine S_callV (pc := 1) (ci := 2) (d2 := 5) (mc2 := 0) (ms2 := 0) (As := []) dX2_nearest_1 kX2_interpolated lkX2_110 (by assumption) rfl rfl rfl (Nat.le_of_ble_eq_true rfl) ⟨by decide, by decide⟩ (by decide) ?_
  refine c_X2_interpolated hW hA hE (fun S1 h1 h2 h3 h4 h5 h6 => ?_)
  refine G_pop (pc := 4) dX2_nearest_4 rfl ?_
  exact hmid S1 h1 h2 h3 h4 (by rw [h5, hF]) (by rw [h6, hNd])
