/-! FEED -/
theorem ushr_8 {x : Int} : (((Int32.ofInt x).toUInt32 >>> ((Int32.ofInt 8).toUInt32 &&& Int32.toUInt32 31)).toInt32).toInt = (x % 4294967296) / 256 := by
  have e1 : (BitVec.ofInt 32 x).toNat = (x % 4294967296).toNat := by
    rw [BitVec.toNat_ofInt]
    rfl
  have e2 : ((Int32.ofInt 8).toUInt32 &&& Int32.toUInt32 31) = 8 := by decide
  rw [e2]
  have e3 : ((Int32.ofInt x).toUInt32 >>> 8).toBitVec.toNat = (x % 4294967296).toNat / 256 := by
    show ((Int32.ofInt x).toUInt32 >>> 8).toNat = _
    rw [UInt32.toNat_shiftRight]
    show (BitVec.ofInt 32 x).toNat >>> 8 = _
    rw [e1, Nat.shiftRight_eq_div_pow]
  show ((Int32.ofInt x).toUInt32 >>> 8).toBitVec.toInt = _
  rw [BitVec.toInt_eq_toNat_of_lt (by rw [e3]; omega), e3]
  omega
theorem ushr_16 {x : Int} : (((Int32.ofInt x).toUInt32 >>> ((Int32.ofInt 16).toUInt32 &&& Int32.toUInt32 31)).toInt32).toInt = (x % 4294967296) / 65536 := by
  have e1 : (BitVec.ofInt 32 x).toNat = (x % 4294967296).toNat := by
    rw [BitVec.toNat_ofInt]
    rfl
  have e2 : ((Int32.ofInt 16).toUInt32 &&& Int32.toUInt32 31) = 16 := by decide
  rw [e2]
  have e3 : ((Int32.ofInt x).toUInt32 >>> 16).toBitVec.toNat = (x % 4294967296).toNat / 65536 := by
    show ((Int32.ofInt x).toUInt32 >>> 16).toNat = _
    rw [UInt32.toNat_shiftRight]
    show (BitVec.ofInt 32 x).toNat >>> 16 = _
    rw [e1, Nat.shiftRight_eq_div_pow]
  show ((Int32.ofInt x).toUInt32 >>> 16).toBitVec.toInt = _
  rw [BitVec.toInt_eq_toNat_of_lt (by rw [e3]; omega), e3]
  omega
theorem ushr_24 {x : Int} : (((Int32.ofInt x).toUInt32 >>> ((Int32.ofInt 24).toUInt32 &&& Int32.toUInt32 31)).toInt32).toInt = (x % 4294967296) / 16777216 := by
  have e1 : (BitVec.ofInt 32 x).toNat = (x % 4294967296).toNat := by
    rw [BitVec.toNat_ofInt]
    rfl
  have e2 : ((Int32.ofInt 24).toUInt32 &&& Int32.toUInt32 31) = 24 := by decide
  rw [e2]
  have e3 : ((Int32.ofInt x).toUInt32 >>> 24).toBitVec.toNat = (x % 4294967296).toNat / 16777216 := by
    show ((Int32.ofInt x).toUInt32 >>> 24).toNat = _
    rw [UInt32.toNat_shiftRight]
    show (BitVec.ofInt 32 x).toNat >>> 24 = _
    rw [e1, Nat.shiftRight_eq_div_pow]
  show ((Int32.ofInt x).toUInt32 >>> 24).toBitVec.toInt = _
  rw [BitVec.toInt_eq_toNat_of_lt (by rw [e3]; omega), e3]
  omega
theorem ishr_0 {x : Int} (h0 : -2147483648 ≤ x) (h1 : x < 2147483648) : (Int32.ofInt x >>> (Int32.ofInt 0 &&& 31)).toInt = x / 1 := by
  have e1 : (BitVec.ofInt 32 x).toInt = x := by
    rw [BitVec.toInt_ofInt]
    rw [Int.bmod_def]
    omega
  have h : ((Int32.ofInt 0 &&& 31).toBitVec.smod 32).toNat = 0 := by decide +kernel
  show ((BitVec.ofInt 32 x).sshiftRight ((Int32.ofInt 0 &&& 31).toBitVec.smod 32).toNat).toInt = _
  rw [h, BitVec.toInt_sshiftRight, e1, Int.shiftRight_eq_div_pow]
  rfl
theorem ishr_8 {x : Int} (h0 : -2147483648 ≤ x) (h1 : x < 2147483648) : (Int32.ofInt x >>> (Int32.ofInt 8 &&& 31)).toInt = x / 256 := by
  have e1 : (BitVec.ofInt 32 x).toInt = x := by
    rw [BitVec.toInt_ofInt]
    rw [Int.bmod_def]
    omega
  have h : ((Int32.ofInt 8 &&& 31).toBitVec.smod 32).toNat = 8 := by decide +kernel
  show ((BitVec.ofInt 32 x).sshiftRight ((Int32.ofInt 8 &&& 31).toBitVec.smod 32).toNat).toInt = _
  rw [h, BitVec.toInt_sshiftRight, e1, Int.shiftRight_eq_div_pow]
  rfl
theorem ishr_16 {x : Int} (h0 : -2147483648 ≤ x) (h1 : x < 2147483648) : (Int32.ofInt x >>> (Int32.ofInt 16 &&& 31)).toInt = x / 65536 := by
  have e1 : (BitVec.ofInt 32 x).toInt = x := by
    rw [BitVec.toInt_ofInt]
    rw [Int.bmod_def]
    omega
  have h : ((Int32.ofInt 16 &&& 31).toBitVec.smod 32).toNat = 16 := by decide +kernel
  show ((BitVec.ofInt 32 x).sshiftRight ((Int32.ofInt 16 &&& 31).toBitVec.smod 32).toNat).toInt = _
  rw [h, BitVec.toInt_sshiftRight, e1, Int.shiftRight_eq_div_pow]
  rfl
theorem ishr_24 {x : Int} (h0 : -2147483648 ≤ x) (h1 : x < 2147483648) : (Int32.ofInt x >>> (Int32.ofInt 24 &&& 31)).toInt = x / 16777216 := by
  have e1 : (BitVec.ofInt 32 x).toInt = x := by
    rw [BitVec.toInt_ofInt]
    rw [Int.bmod_def]
    omega
  have h : ((Int32.ofInt 24 &&& 31).toBitVec.smod 32).toNat = 24 := by decide +kernel
  show ((BitVec.ofInt 32 x).sshiftRight ((Int32.ofInt 24 &&& 31).toBitVec.smod 32).toNat).toInt = _
  rw [h, BitVec.toInt_sshiftRight, e1, Int.shiftRight_eq_div_pow]
  rfl
theorem ushr_0 {x : Int} (h0 : -2147483648 ≤ x) (h1 : x < 2147483648) : (((Int32.ofInt x).toUInt32 >>> ((Int32.ofInt 0).toUInt32 &&& Int32.toUInt32 31)).toInt32).toInt = x := by
  have e2 : ((Int32.ofInt 0).toUInt32 &&& Int32.toUInt32 31) = 0 := by decide
  rw [e2]
  have e3 : ((Int32.ofInt x).toUInt32 >>> 0).toBitVec = BitVec.ofInt 32 x := by
    apply BitVec.eq_of_toNat_eq
    show ((Int32.ofInt x).toUInt32 >>> 0).toNat = _
    rw [UInt32.toNat_shiftRight]
    rfl
  show ((Int32.ofInt x).toUInt32 >>> 0).toBitVec.toInt = _
  rw [e3, BitVec.toInt_ofInt, Int.bmod_def]
  omega
theorem iand255 {v : Int} : (Int32.ofInt v &&& Int32.ofInt 255).toInt = v % 256 := by
  have e2 : (BitVec.ofInt 32 (255 : Int)).toNat = 255 := by rfl
  have e3 : (BitVec.ofInt 32 v &&& BitVec.ofInt 32 255).toNat = (v % 4294967296).toNat % 256 := by
    rw [BitVec.toNat_and, e2, BitVec.toNat_ofInt]
    exact Nat.and_two_pow_sub_one_eq_mod _ 8
  show (BitVec.ofInt 32 v &&& BitVec.ofInt 32 255).toInt = _
  rw [BitVec.toInt_eq_toNat_of_lt (by rw [e3]; omega), e3]
  omega
/-- the i-th byte of a word, the greatest first -/
def byt (x : Int) (i : Nat) : Int := x / 2 ^ (24 - 8 * i) % 256
theorem byt_in (x : Int) (i : Nat) : 0 ≤ byt x i ∧ byt x i ≤ 255 := by unfold byt; omega
theorem byt_u {x : Int} {i : Nat} (h0 : -2147483648 ≤ x) (h1 : x < 2147483648) (hi : i < 4) : (Int32.ofInt (((Int32.ofInt x).toUInt32 >>> ((Int32.ofInt (24 - 8 * (i : Int))).toUInt32 &&& Int32.toUInt32 31)).toInt32).toInt &&& Int32.ofInt 255).toInt = byt x i := by
  rcases (show i = 0 ∨ i = 1 ∨ i = 2 ∨ i = 3 by omega) with e | e | e | e <;> subst e
  · show (Int32.ofInt (((Int32.ofInt x).toUInt32 >>> ((Int32.ofInt 24).toUInt32 &&& Int32.toUInt32 31)).toInt32).toInt &&& Int32.ofInt 255).toInt = x / 16777216 % 256
    rw [ushr_24, iand255]; omega
  · show (Int32.ofInt (((Int32.ofInt x).toUInt32 >>> ((Int32.ofInt 16).toUInt32 &&& Int32.toUInt32 31)).toInt32).toInt &&& Int32.ofInt 255).toInt = x / 65536 % 256
    rw [ushr_16, iand255]; omega
  · show (Int32.ofInt (((Int32.ofInt x).toUInt32 >>> ((Int32.ofInt 8).toUInt32 &&& Int32.toUInt32 31)).toInt32).toInt &&& Int32.ofInt 255).toInt = x / 256 % 256
    rw [ushr_8, iand255]; omega
  · show (Int32.ofInt (((Int32.ofInt x).toUInt32 >>> ((Int32.ofInt 0).toUInt32 &&& Int32.toUInt32 31)).toInt32).toInt &&& Int32.ofInt 255).toInt = x / 1 % 256
    rw [ushr_0 h0 h1, iand255, Int.ediv_one]
theorem byt_i {x : Int} {i : Nat} (h0 : -2147483648 ≤ x) (h1 : x < 2147483648) (hi : i < 4) : (Int32.ofInt (Int32.ofInt x >>> (Int32.ofInt (24 - 8 * (i : Int)) &&& 31)).toInt &&& Int32.ofInt 255).toInt = byt x i := by
  rcases (show i = 0 ∨ i = 1 ∨ i = 2 ∨ i = 3 by omega) with e | e | e | e <;> subst e
  · show (Int32.ofInt (Int32.ofInt x >>> (Int32.ofInt 24 &&& 31)).toInt &&& Int32.ofInt 255).toInt = x / 16777216 % 256
    rw [ishr_24 h0 h1, iand255]
  · show (Int32.ofInt (Int32.ofInt x >>> (Int32.ofInt 16 &&& 31)).toInt &&& Int32.ofInt 255).toInt = x / 65536 % 256
    rw [ishr_16 h0 h1, iand255]
  · show (Int32.ofInt (Int32.ofInt x >>> (Int32.ofInt 8 &&& 31)).toInt &&& Int32.ofInt 255).toInt = x / 256 % 256
    rw [ishr_8 h0 h1, iand255]
  · show (Int32.ofInt (Int32.ofInt x >>> (Int32.ofInt 0 &&& 31)).toInt &&& Int32.ofInt 255).toInt = x / 1 % 256
    rw [ishr_0 h0 h1, iand255]
/-- k bytes of a word are laid on a tape -/
def Ap (cL jL cT n : Nat) (x : Int) (k : Nat) (g g' : am_G) : Prop := g' cL jL = ((n + k : Nat) : Int) ∧ (∀ j, g' cT j = if n ≤ j ∧ j < n + k then byt x (j - n) else g cT j) ∧ ∀ c j, ¬ (c = cL ∧ j = jL) → c ≠ cT → g' c j = g c j
theorem ap_0 {cL jL cT n : Nat} {x : Int} {g : am_G} (h : g cL jL = (n : Int)) : Ap cL jL cT n x 0 g g := ⟨h, fun j => by rw [if_neg (by omega)], fun _ _ _ _ => rfl⟩
theorem ap_s {cL jL cT n k : Nat} {x : Int} {g h : am_G} (hc : cL ≠ cT) (H : Ap cL jL cT n x k g h) : Ap cL jL cT n x (k + 1) g (am_up (am_up h cT (n + k) (byt x k)) cL jL (((n + k : Nat) : Int) + 1)) := by
  obtain ⟨h1, h2, h3⟩ := H
  refine ⟨?_, fun j => ?_, fun c j q1 q2 => ?_⟩
  · rw [up_eq]; omega
  · rw [up_ne (fun e => hc e.symm)]
    by_cases e : j = n + k
    · subst e
      rw [up_eq, if_pos (by omega), show n + k - n = k by omega]
    · rw [up_nj e, h2 j]
      by_cases e2 : n ≤ j ∧ j < n + k
      · rw [if_pos e2, if_pos (by omega)]
      · rw [if_neg e2, if_neg (by omega)]
  · rw [up_no (by omega), up_ne q2]
    exact h3 c j q1 q2
/-- five words -/
def Ap5 (cL jL cT n : Nat) (x1 x2 x3 x4 x5 : Int) (g g' : am_G) : Prop := g' cL jL = ((n + 20 : Nat) : Int) ∧ (∀ j, g' cT j = if n + 16 ≤ j ∧ j < n + 20 then byt x5 (j - (n + 16)) else if n + 12 ≤ j ∧ j < n + 16 then byt x4 (j - (n + 12)) else if n + 8 ≤ j ∧ j < n + 12 then byt x3 (j - (n + 8)) else if n + 4 ≤ j ∧ j < n + 8 then byt x2 (j - (n + 4)) else if n ≤ j ∧ j < n + 4 then byt x1 (j - n) else g cT j) ∧ ∀ c j, ¬ (c = cL ∧ j = jL) → c ≠ cT → g' c j = g c j
theorem ap5 {cL jL cT n : Nat} {x1 x2 x3 x4 x5 : Int} {g g1 g2 g3 g4 g5 : am_G} (h1 : Ap cL jL cT n x1 4 g g1) (h2 : Ap cL jL cT (n + 4) x2 4 g1 g2) (h3 : Ap cL jL cT (n + 8) x3 4 g2 g3) (h4 : Ap cL jL cT (n + 12) x4 4 g3 g4) (h5 : Ap cL jL cT (n + 16) x5 4 g4 g5) : Ap5 cL jL cT n x1 x2 x3 x4 x5 g g5 := by
  refine ⟨h5.1, fun j => ?_, fun c j q1 q2 => ?_⟩
  · rw [h5.2.1 j, h4.2.1 j, h3.2.1 j, h2.2.1 j, h1.2.1 j]
  · rw [h5.2.2 c j q1 q2, h4.2.2 c j q1 q2, h3.2.2 c j q1 q2, h2.2.2 c j q1 q2, h1.2.2 c j q1 q2]
theorem CInv.keepT {P : Nat} {g g' : am_G} (h : CInv P g) (hF : ∀ c j, ¬ (c = 47 ∧ j = 1) → c ≠ 48 → g' c j = g c j) (hT : Tap g') : CInv P g' := by
  have k (c j : Nat) (q1 : ¬ (c = 47 ∧ j = 1)) (q2 : c ≠ 48) : g' c j = g c j := hF c j q1 q2
  exact ⟨h.ck.same fun c j q => k c j (by omega) (by omega), h.rg.same fun c j a b => k c j (by omega) (by omega), h.rgi.same fun c j a b => k c j (by omega) (by omega), h.e24.same fun c j q => k c j (by omega) (by omega), h.e24i.same fun c j q => k c j (by omega) (by omega), h.tx.same fun c j a b => k c j (by omega) (by omega), h.txi.same fun c j a b => k c j (by omega) (by omega), h.ti.same fun c j q => k c j (by omega) (by omega), hT, h.cls.same fun c j a b => k c j (by omega) (by omega), h.wls.same fun c j a b => k c j (by omega) (by omega), h.caw.same fun c j q => k c j (by omega) (by omega), h.cal.same fun c j q => k c j (by omega) (by omega)⟩
def FdA (x1 x2 x3 x4 x5 : Int) (c c1 : am_G) (v1 : Int) : Prop := (280 < c 47 1 ∧ v1 = -1 ∧ c1 = c) ∨ (c 47 1 ≤ 280 ∧ v1 = c 47 1 + 20 ∧ Ap5 47 1 48 (c 47 1).toNat x1 x2 x3 x4 x5 c c1)
set_option maxHeartbeats 400000 in
set_option maxRecDepth 20000 in
theorem e_hasRoom {sn : Nat} {sx : Nat → Int} {b : Nat} {g : am_G} (hT : 0 ≤ g 47 1 ∧ g 47 1 ≤ 300) : Ev sn sx 1 57 [(2, 47)] (SH b) g (fun r => (g 47 1 ≤ 280 ∧ r = (some (0, 1), SH b, g)) ∨ (280 < g 47 1 ∧ r = (some (0, 0), SH b, g))) := by
  refine ev_of (K := 0) T57 (by decide) rfl rfl (Nat.le_of_ble_eq_true rfl) ?_
  refine wp_eq (L' := [(2, 47)]) (st' := []) (g' := g) ?_
  refine wp_n 7 (pc' := 12) (L' := [(2, 47)]) (st' := [(0, 300), (0, ((g 47 1) + 20))]) (g' := g) rfl ?_
  refine wp_ic_gt rfl (fun c1 => ?_) (fun c1 => ?_)
  · refine wp_n 1 (pc' := 20) (L' := [(2, 47)]) (st' := [(0, 0)]) (g' := g) rfl ?_
    exact wp_ret rfl rfl rfl (Or.inr ⟨by omega, rfl⟩)
  · refine wp_n 2 (pc' := 20) (L' := [(2, 47)]) (st' := [(0, 1)]) (g' := g) rfl ?_
    exact wp_ret rfl rfl rfl (Or.inl ⟨by omega, rfl⟩)
set_option maxHeartbeats 400000 in
set_option maxRecDepth 20000 in
theorem e_append {sn : Nat} {sx : Nat → Int} {b : Nat} {g : am_G} {n : Nat} {x : Int} (hx : R32 x) (hn : n + 4 ≤ 300) (hL : g 47 1 = (n : Int)) : Ev sn sx 1 58 [(2, 47), (0, x)] (SH b) g (fun r => ∃ g', r = (none, SH b, g') ∧ Ap 47 1 48 n x 4 g g') := by
  have hx1 : -2147483648 ≤ x ∧ x < 2147483648 := hx
  refine ev_of (K := 0) T58 (by decide) rfl rfl (Nat.le_of_ble_eq_true rfl) ?_
  refine wp_eq (L' := [(2, 47), (0, x), (9, 0)]) (st' := []) (g' := g) ?_
  refine wp_n 2 (pc' := 3) (L' := [(2, 47), (0, x), (0, 24)]) (st' := []) (g' := g) rfl ?_
  have L3 : ∀ (lf : Nat) (i : Nat) (f : am_G), 4 - i < lf → (i ≤ 4) → (Ap 47 1 48 n x i g f) → Wp sn sx 0 T58 3 [(2, 47), (0, x), (0, (24 - 8 * (i : Int)))] [] (SH b) f (fun r => ∃ g', r = (none, SH b, g') ∧ Ap 47 1 48 n x 4 g g') := by
    intro lf
    induction lf with
    | zero => intro i f hlf; exact absurd hlf (Nat.not_lt_zero _)
    | succ lf ih3 =>
      intro i f hlf hi hH
      refine wp_n 1 (pc' := 4) (L' := [(2, 47), (0, x), (0, (24 - 8 * (i : Int)))]) (st' := [(0, (24 - 8 * (i : Int)))]) (g' := f) rfl ?_
      refine wp_if_lt rfl (fun c1 => ?_) (fun c1 => ?_)
      · have hk2 : i = 4 := by omega
        first | (exfalso; omega) | exact wp_ret rfl rfl rfl ⟨_, rfl, by rw [hk2] at hH; exact hH⟩
      · refine wp_n 2 (pc' := 11) (L' := [(2, 47), (0, x), (0, (24 - 8 * (i : Int)))]) (st' := [(0, (f 47 1))]) (g' := f) rfl ?_
        refine wp_eq (L' := [(2, 47), (0, x), (0, (24 - 8 * (i : Int)))]) (st' := [(0, (((n + i) : Nat) : Int))]) (g' := f) ?_ (by rfl) (by rw [hH.1]) (by rfl)
        refine wp_n 3 (pc' := 16) (L' := [(2, 47), (0, x), (0, (24 - 8 * (i : Int)))]) (st' := [(0, 300), (0, (((n + i) : Nat) : Int))]) (g' := f) rfl ?_
        refine wp_ic_ge rfl (fun c2 => ?_) (fun c2 => ?_)
        · first | (exfalso; omega) | exact wp_ret rfl rfl rfl ⟨_, rfl, by rw [hk2] at hH; exact hH⟩
        · refine wp_n 4 (pc' := 27) (L' := [(2, 47), (0, x), (0, (24 - 8 * (i : Int)))]) (st' := [(0, (f 47 1)), (2, 48)]) (g' := f) rfl ?_
          refine wp_eq (L' := [(2, 47), (0, x), (0, (24 - 8 * (i : Int)))]) (st' := [(0, (((n + i) : Nat) : Int)), (2, 48)]) (g' := f) ?_ (by rfl) (by rw [hH.1]) (by rfl)
          refine wp_n 5 (pc' := 34) (L' := [(2, 47), (0, x), (0, (24 - 8 * (i : Int)))]) (st' := [(0, (Int32.ofInt (((Int32.ofInt x).toUInt32 >>> ((Int32.ofInt (24 - 8 * (i : Int))).toUInt32 &&& Int32.toUInt32 31)).toInt32).toInt &&& Int32.ofInt 255).toInt), (0, (((n + i) : Nat) : Int)), (2, 48)]) (g' := f) rfl ?_
          refine wp_eq (L' := [(2, 47), (0, x), (0, (24 - 8 * (i : Int)))]) (st' := [(0, (byt x i)), (0, (((n + i) : Nat) : Int)), (2, 48)]) (g' := f) ?_ (by rfl) (by rw [byt_u (by omega) (by omega) (by omega)]) (by rfl)
          refine wp_iast (k := 48) ((n + i)) rfl rfl (by omega) (by omega) (by decide) ?_
          refine wp_n 3 (pc' := 40) (L' := [(2, 47), (0, x), (0, (24 - 8 * (i : Int)))]) (st' := [(0, (f 47 1)), (2, 47)]) (g' := (am_up f 48 ((n + i)) (byt x i))) rfl ?_
          refine wp_eq (L' := [(2, 47), (0, x), (0, (24 - 8 * (i : Int)))]) (st' := [(0, (((n + i) : Nat) : Int)), (2, 47)]) (g' := (am_up f 48 ((n + i)) (byt x i))) ?_ (by rfl) (by rw [hH.1]) (by rfl)
          refine wp_n 5 (pc' := 3) (L' := [(2, 47), (0, x), (0, ((24 - 8 * (i : Int)) + (-8)))]) (st' := []) (g' := (am_up (am_up f 48 ((n + i)) (byt x i)) 47 1 ((((n + i) : Nat) : Int) + 1))) rfl ?_
          refine wp_eq (ih3 (i + 1) ((am_up (am_up f 48 ((n + i)) (byt x i)) 47 1 ((((n + i) : Nat) : Int) + 1))) ?_ ?_ ?_) (by rw [show 24 - 8 * ((i + 1 : Nat) : Int) = 24 - 8 * (i : Int) + -8 by omega]) (by rfl) (by rfl)
          · omega
          · omega
          · exact ap_s (by decide) hH
  refine wp_eq (L3 (_ + 1) (0) (g) (Nat.lt_succ_self _) ?_ ?_) (by first | rfl | (simp; done) | (simp; omega)) (by rfl) (by rfl)
  · exact Nat.zero_le _
  · exact ap_0 hL
set_option maxHeartbeats 400000 in
set_option maxRecDepth 20000 in
theorem m_four {sn : Nat} {sx : Nat → Int} {b : Nat} {g : am_G} {n : Nat} {x : Int} (hx : R32 x) (hn : n + 4 ≤ 300) (hL : g 127 5 = (n : Int)) : Ev sn sx 1 161 [(2, 127), (0, x)] (SH b) g (fun r => ∃ g', r = (none, SH b, g') ∧ Ap 127 5 131 n x 4 g g') := by
  have hx1 : -2147483648 ≤ x ∧ x < 2147483648 := hx
  refine ev_of (K := 0) T161 (by decide) rfl rfl (Nat.le_of_ble_eq_true rfl) ?_
  refine wp_eq (L' := [(2, 127), (0, x), (9, 0)]) (st' := []) (g' := g) ?_
  refine wp_n 2 (pc' := 3) (L' := [(2, 127), (0, x), (0, 24)]) (st' := []) (g' := g) rfl ?_
  have L3 : ∀ (lf : Nat) (i : Nat) (f : am_G), 4 - i < lf → (i ≤ 4) → (Ap 127 5 131 n x i g f) → Wp sn sx 0 T161 3 [(2, 127), (0, x), (0, (24 - 8 * (i : Int)))] [] (SH b) f (fun r => ∃ g', r = (none, SH b, g') ∧ Ap 127 5 131 n x 4 g g') := by
    intro lf
    induction lf with
    | zero => intro i f hlf; exact absurd hlf (Nat.not_lt_zero _)
    | succ lf ih3 =>
      intro i f hlf hi hH
      refine wp_n 1 (pc' := 4) (L' := [(2, 127), (0, x), (0, (24 - 8 * (i : Int)))]) (st' := [(0, (24 - 8 * (i : Int)))]) (g' := f) rfl ?_
      refine wp_if_lt rfl (fun c1 => ?_) (fun c1 => ?_)
      · have hk2 : i = 4 := by omega
        first | (exfalso; omega) | exact wp_ret rfl rfl rfl ⟨_, rfl, by rw [hk2] at hH; exact hH⟩
      · refine wp_n 4 (pc' := 15) (L' := [(2, 127), (0, x), (0, (24 - 8 * (i : Int)))]) (st' := [(0, (f 127 5)), (2, 131)]) (g' := f) rfl ?_
        refine wp_eq (L' := [(2, 127), (0, x), (0, (24 - 8 * (i : Int)))]) (st' := [(0, (((n + i) : Nat) : Int)), (2, 131)]) (g' := f) ?_ (by rfl) (by rw [hH.1]) (by rfl)
        refine wp_n 5 (pc' := 22) (L' := [(2, 127), (0, x), (0, (24 - 8 * (i : Int)))]) (st' := [(0, (Int32.ofInt (Int32.ofInt x >>> (Int32.ofInt (24 - 8 * (i : Int)) &&& 31)).toInt &&& Int32.ofInt 255).toInt), (0, (((n + i) : Nat) : Int)), (2, 131)]) (g' := f) rfl ?_
        refine wp_eq (L' := [(2, 127), (0, x), (0, (24 - 8 * (i : Int)))]) (st' := [(0, (byt x i)), (0, (((n + i) : Nat) : Int)), (2, 131)]) (g' := f) ?_ (by rfl) (by rw [byt_i (by omega) (by omega) (by omega)]) (by rfl)
        refine wp_iast (k := 131) ((n + i)) rfl rfl (by omega) (by omega) (by decide) ?_
        refine wp_n 3 (pc' := 28) (L' := [(2, 127), (0, x), (0, (24 - 8 * (i : Int)))]) (st' := [(0, (f 127 5)), (2, 127)]) (g' := (am_up f 131 ((n + i)) (byt x i))) rfl ?_
        refine wp_eq (L' := [(2, 127), (0, x), (0, (24 - 8 * (i : Int)))]) (st' := [(0, (((n + i) : Nat) : Int)), (2, 127)]) (g' := (am_up f 131 ((n + i)) (byt x i))) ?_ (by rfl) (by rw [hH.1]) (by rfl)
        refine wp_n 5 (pc' := 3) (L' := [(2, 127), (0, x), (0, ((24 - 8 * (i : Int)) + (-8)))]) (st' := []) (g' := (am_up (am_up f 131 ((n + i)) (byt x i)) 127 5 ((((n + i) : Nat) : Int) + 1))) rfl ?_
        refine wp_eq (ih3 (i + 1) ((am_up (am_up f 131 ((n + i)) (byt x i)) 127 5 ((((n + i) : Nat) : Int) + 1))) ?_ ?_ ?_) (by rw [show 24 - 8 * ((i + 1 : Nat) : Int) = 24 - 8 * (i : Int) + -8 by omega]) (by rfl) (by rfl)
        · omega
        · omega
        · exact ap_s (by decide) hH
  refine wp_eq (L3 (_ + 1) (0) (g) (Nat.lt_succ_self _) ?_ ?_) (by first | rfl | (simp; done) | (simp; omega)) (by rfl) (by rfl)
  · exact Nat.zero_le _
  · exact ap_0 hL
set_option maxHeartbeats 400000 in
set_option maxRecDepth 20000 in
theorem e_feed {sn : Nat} {sx : Nat → Int} {b : Nat} {g : am_G} {P : Nat} {x1 x2 x3 x4 x5 : Int} (h_x1 : R32 x1) (h_x2 : R32 x2) (h_x3 : R32 x3) (h_x4 : R32 x4) (h_x5 : R32 x5) (hI : CInv P g) : Ev sn sx 2 101 [(2, 0), (0, x1), (0, x2), (0, x3), (0, x4), (0, x5)] (SH b) g (fun y => ∃ g' v, y = (some (0, v), SH b, g') ∧ ((280 < g 47 1 ∧ v = -1 ∧ g' = g) ∨ (g 47 1 ≤ 280 ∧ v = g 47 1 + 20 ∧ Ap5 47 1 48 (g 47 1).toNat x1 x2 x3 x4 x5 g g'))) := by
  have hTa := hI.tap
  have hTb := hTa.1
  refine ev_of (K := 1) T101 (by decide) rfl rfl (Nat.le_of_ble_eq_true rfl) ?_
  refine wp_eq (L' := [(2, 0), (0, x1), (0, x2), (0, x3), (0, x4), (0, x5)]) (st' := []) (g' := g) ?_
  refine wp_n 2 (pc' := 4) (L' := [(2, 0), (0, x1), (0, x2), (0, x3), (0, x4), (0, x5)]) (st' := [(2, 47)]) (g' := g) rfl ?_
  refine wp_cv (as := [(2, 47)]) (rest := []) rfl rfl rfl (Nat.le_of_ble_eq_true rfl) rfl (e_hasRoom hTa.1) (by decide) (fun r1 h2 => ?_)
  rcases h2 with ⟨p4, rfl⟩ | ⟨p4, rfl⟩
  · refine wp_eq (L' := [(2, 0), (0, x1), (0, x2), (0, x3), (0, x4), (0, x5)]) (st' := [(0, 1)]) (g' := g) ?_
    refine wp_n 4 (pc' := 17) (L' := [(2, 0), (0, x1), (0, x2), (0, x3), (0, x4), (0, x5)]) (st' := [(0, x1), (2, 47)]) (g' := g) rfl ?_
    refine wp_cv (as := [(2, 47), (0, x1)]) (rest := []) rfl rfl rfl (Nat.le_of_ble_eq_true rfl) rfl (e_append (n := (g 47 1).toNat) h_x1 (by omega) (by omega)) (by decide) (fun r3 h4 => ?_)
    obtain ⟨g17, rfl, hA17⟩ := h4
    refine wp_eq (L' := [(2, 0), (0, x1), (0, x2), (0, x3), (0, x4), (0, x5)]) (st' := []) (g' := g17) ?_
    refine wp_n 3 (pc' := 25) (L' := [(2, 0), (0, x1), (0, x2), (0, x3), (0, x4), (0, x5)]) (st' := [(0, x2), (2, 47)]) (g' := g17) rfl ?_
    refine wp_cv (as := [(2, 47), (0, x2)]) (rest := []) rfl rfl rfl (Nat.le_of_ble_eq_true rfl) rfl (e_append (n := ((g 47 1).toNat + 4)) h_x2 (by omega) hA17.1) (by decide) (fun r5 h6 => ?_)
    obtain ⟨g25, rfl, hA25⟩ := h6
    refine wp_eq (L' := [(2, 0), (0, x1), (0, x2), (0, x3), (0, x4), (0, x5)]) (st' := []) (g' := g25) ?_
    refine wp_n 3 (pc' := 33) (L' := [(2, 0), (0, x1), (0, x2), (0, x3), (0, x4), (0, x5)]) (st' := [(0, x3), (2, 47)]) (g' := g25) rfl ?_
    refine wp_cv (as := [(2, 47), (0, x3)]) (rest := []) rfl rfl rfl (Nat.le_of_ble_eq_true rfl) rfl (e_append (n := ((g 47 1).toNat + 8)) h_x3 (by omega) hA25.1) (by decide) (fun r7 h8 => ?_)
    obtain ⟨g33, rfl, hA33⟩ := h8
    refine wp_eq (L' := [(2, 0), (0, x1), (0, x2), (0, x3), (0, x4), (0, x5)]) (st' := []) (g' := g33) ?_
    refine wp_n 3 (pc' := 42) (L' := [(2, 0), (0, x1), (0, x2), (0, x3), (0, x4), (0, x5)]) (st' := [(0, x4), (2, 47)]) (g' := g33) rfl ?_
    refine wp_cv (as := [(2, 47), (0, x4)]) (rest := []) rfl rfl rfl (Nat.le_of_ble_eq_true rfl) rfl (e_append (n := ((g 47 1).toNat + 12)) h_x4 (by omega) hA33.1) (by decide) (fun r9 h10 => ?_)
    obtain ⟨g42, rfl, hA42⟩ := h10
    refine wp_eq (L' := [(2, 0), (0, x1), (0, x2), (0, x3), (0, x4), (0, x5)]) (st' := []) (g' := g42) ?_
    refine wp_n 3 (pc' := 51) (L' := [(2, 0), (0, x1), (0, x2), (0, x3), (0, x4), (0, x5)]) (st' := [(0, x5), (2, 47)]) (g' := g42) rfl ?_
    refine wp_cv (as := [(2, 47), (0, x5)]) (rest := []) rfl rfl rfl (Nat.le_of_ble_eq_true rfl) rfl (e_append (n := ((g 47 1).toNat + 16)) h_x5 (by omega) hA42.1) (by decide) (fun r11 h12 => ?_)
    obtain ⟨g51, rfl, hA51⟩ := h12
    refine wp_eq (L' := [(2, 0), (0, x1), (0, x2), (0, x3), (0, x4), (0, x5)]) (st' := []) (g' := g51) ?_
    refine wp_n 3 (pc' := 61) (L' := [(2, 0), (0, x1), (0, x2), (0, x3), (0, x4), (0, x5)]) (st' := [(0, (g51 47 1))]) (g' := g51) rfl ?_
    exact wp_ret rfl rfl rfl ⟨_, _, rfl, Or.inr ⟨by omega, by rw [hA51.1]; omega, ap5 hA17 hA25 hA33 hA42 hA51⟩⟩
  · refine wp_eq (L' := [(2, 0), (0, x1), (0, x2), (0, x3), (0, x4), (0, x5)]) (st' := [(0, 0)]) (g' := g) ?_
    refine wp_n 2 (pc' := 11) (L' := [(2, 0), (0, x1), (0, x2), (0, x3), (0, x4), (0, x5)]) (st' := [(0, (-1))]) (g' := g) rfl ?_
    exact wp_ret rfl rfl rfl ⟨_, _, rfl, Or.inl ⟨by omega, rfl, rfl⟩⟩
set_option maxHeartbeats 400000 in
set_option maxRecDepth 20000 in
theorem m_feed {sn : Nat} {sx : Nat → Int} {b : Nat} {g : am_G} {c : am_G} {P : Nat} {x1 x2 x3 x4 x5 : Int} (h_x1 : R32 x1) (h_x2 : R32 x2) (h_x3 : R32 x3) (h_x4 : R32 x4) (h_x5 : R32 x5) (hI : CInv P c) (hM : MRel c g) : Ev sn sx 2 162 [(2, 127), (0, x1), (0, x2), (0, x3), (0, x4), (0, x5)] (SH b) g (fun y => ∃ g' v, y = (some (0, v), SH b, g') ∧ ((280 < c 47 1 ∧ v = -1 ∧ g' = g) ∨ (c 47 1 ≤ 280 ∧ v = c 47 1 + 20 ∧ Ap5 127 5 131 (c 47 1).toNat x1 x2 x3 x4 x5 g g'))) := by
  have hTa := hI.tap
  have hTb := hTa.1
  have hTm := hM.taped
  refine ev_of (K := 1) T162 (by decide) rfl rfl (Nat.le_of_ble_eq_true rfl) ?_
  refine wp_eq (L' := [(2, 127), (0, x1), (0, x2), (0, x3), (0, x4), (0, x5)]) (st' := []) (g' := g) ?_
  refine wp_n 2 (pc' := 4) (L' := [(2, 127), (0, x1), (0, x2), (0, x3), (0, x4), (0, x5)]) (st' := [(0, (g 127 5))]) (g' := g) rfl ?_
  refine wp_eq (L' := [(2, 127), (0, x1), (0, x2), (0, x3), (0, x4), (0, x5)]) (st' := [(0, (c 47 1))]) (g' := g) ?_ (by rfl) (by rw [hTm]) (by rfl)
  refine wp_n 3 (pc' := 10) (L' := [(2, 127), (0, x1), (0, x2), (0, x3), (0, x4), (0, x5)]) (st' := [(0, 300), (0, ((c 47 1) + 20))]) (g' := g) rfl ?_
  refine wp_ic_le rfl (fun c1 => ?_) (fun c1 => ?_)
  · refine wp_n 2 (pc' := 17) (L' := [(2, 127), (0, x1), (0, x2), (0, x3), (0, x4), (0, x5)]) (st' := [(0, x1), (2, 127)]) (g' := g) rfl ?_
    refine wp_cv (as := [(2, 127), (0, x1)]) (rest := []) rfl rfl rfl (Nat.le_of_ble_eq_true rfl) rfl (m_four (n := (c 47 1).toNat) h_x1 (by omega) (by omega)) (by decide) (fun r2 h3 => ?_)
    obtain ⟨g17, rfl, hA17⟩ := h3
    refine wp_eq (L' := [(2, 127), (0, x1), (0, x2), (0, x3), (0, x4), (0, x5)]) (st' := []) (g' := g17) ?_
    refine wp_n 2 (pc' := 22) (L' := [(2, 127), (0, x1), (0, x2), (0, x3), (0, x4), (0, x5)]) (st' := [(0, x2), (2, 127)]) (g' := g17) rfl ?_
    refine wp_cv (as := [(2, 127), (0, x2)]) (rest := []) rfl rfl rfl (Nat.le_of_ble_eq_true rfl) rfl (m_four (n := ((c 47 1).toNat + 4)) h_x2 (by omega) hA17.1) (by decide) (fun r4 h5 => ?_)
    obtain ⟨g22, rfl, hA22⟩ := h5
    refine wp_eq (L' := [(2, 127), (0, x1), (0, x2), (0, x3), (0, x4), (0, x5)]) (st' := []) (g' := g22) ?_
    refine wp_n 2 (pc' := 27) (L' := [(2, 127), (0, x1), (0, x2), (0, x3), (0, x4), (0, x5)]) (st' := [(0, x3), (2, 127)]) (g' := g22) rfl ?_
    refine wp_cv (as := [(2, 127), (0, x3)]) (rest := []) rfl rfl rfl (Nat.le_of_ble_eq_true rfl) rfl (m_four (n := ((c 47 1).toNat + 8)) h_x3 (by omega) hA22.1) (by decide) (fun r6 h7 => ?_)
    obtain ⟨g27, rfl, hA27⟩ := h7
    refine wp_eq (L' := [(2, 127), (0, x1), (0, x2), (0, x3), (0, x4), (0, x5)]) (st' := []) (g' := g27) ?_
    refine wp_n 2 (pc' := 33) (L' := [(2, 127), (0, x1), (0, x2), (0, x3), (0, x4), (0, x5)]) (st' := [(0, x4), (2, 127)]) (g' := g27) rfl ?_
    refine wp_cv (as := [(2, 127), (0, x4)]) (rest := []) rfl rfl rfl (Nat.le_of_ble_eq_true rfl) rfl (m_four (n := ((c 47 1).toNat + 12)) h_x4 (by omega) hA27.1) (by decide) (fun r8 h9 => ?_)
    obtain ⟨g33, rfl, hA33⟩ := h9
    refine wp_eq (L' := [(2, 127), (0, x1), (0, x2), (0, x3), (0, x4), (0, x5)]) (st' := []) (g' := g33) ?_
    refine wp_n 2 (pc' := 39) (L' := [(2, 127), (0, x1), (0, x2), (0, x3), (0, x4), (0, x5)]) (st' := [(0, x5), (2, 127)]) (g' := g33) rfl ?_
    refine wp_cv (as := [(2, 127), (0, x5)]) (rest := []) rfl rfl rfl (Nat.le_of_ble_eq_true rfl) rfl (m_four (n := ((c 47 1).toNat + 16)) h_x5 (by omega) hA33.1) (by decide) (fun r10 h11 => ?_)
    obtain ⟨g39, rfl, hA39⟩ := h11
    refine wp_eq (L' := [(2, 127), (0, x1), (0, x2), (0, x3), (0, x4), (0, x5)]) (st' := []) (g' := g39) ?_
    refine wp_n 2 (pc' := 46) (L' := [(2, 127), (0, x1), (0, x2), (0, x3), (0, x4), (0, x5)]) (st' := [(0, (g39 127 5))]) (g' := g39) rfl ?_
    exact wp_ret rfl rfl rfl ⟨_, _, rfl, Or.inr ⟨by omega, by rw [hA39.1]; omega, ap5 hA17 hA22 hA27 hA33 hA39⟩⟩
  · refine wp_n 1 (pc' := 14) (L' := [(2, 127), (0, x1), (0, x2), (0, x3), (0, x4), (0, x5)]) (st' := [(0, (-1))]) (g' := g) rfl ?_
    exact wp_ret rfl rfl rfl ⟨_, _, rfl, Or.inl ⟨by omega, rfl, rfl⟩⟩
theorem C_feed {sn : Nat} {sx : Nat → Int} {b : Nat} {g : am_G} {P : Nat} {x1 x2 x3 x4 x5 : Int} (h_x1 : R32 x1) (h_x2 : R32 x2) (h_x3 : R32 x3) (h_x4 : R32 x4) (h_x5 : R32 x5) (hI : CInv P g) : Ev sn sx 2 101 [(2, 0), (0, x1), (0, x2), (0, x3), (0, x4), (0, x5)] (SH b) g (CPost P g (FdA x1 x2 x3 x4 x5 g)) := (e_feed h_x1 h_x2 h_x3 h_x4 h_x5 hI).mono fun r hh => by
  obtain ⟨g', v, h1, h2⟩ := hh
  rcases h2 with ⟨a1, a2, a3⟩ | ⟨a1, a2, a3⟩
  · subst a3
    exact ⟨_, v, b, h1, hI, fun _ _ _ => rfl, Or.inl ⟨a1, a2, rfl⟩⟩
  · have ht := hI.tap
    refine ⟨g', v, b, h1, hI.keepT a3.2.2 ⟨by rw [a3.1]; omega, fun j hj => ?_⟩, fun c j hc => a3.2.2 c j (by omega) (by omega), Or.inr ⟨a1, a2, a3⟩⟩
    rw [a3.2.1 j]
    repeat' split
    all_goals first | exact byt_in _ _ | exact ht.2 j hj
theorem M_feed {sn : Nat} {sx : Nat → Int} {b : Nat} {g c : am_G} {P : Nat} {x1 x2 x3 x4 x5 : Int} (h_x1 : R32 x1) (h_x2 : R32 x2) (h_x3 : R32 x3) (h_x4 : R32 x4) (h_x5 : R32 x5) (hI : CInv P c) (hM : MRel c g) : Ev sn sx 2 162 [(2, 127), (0, x1), (0, x2), (0, x3), (0, x4), (0, x5)] (SH b) g (MPost b g (FdA x1 x2 x3 x4 x5 c)) := (m_feed h_x1 h_x2 h_x3 h_x4 h_x5 hI hM).mono fun r hh => by
  obtain ⟨g', v, h1, h2⟩ := hh
  rcases h2 with ⟨a1, a2, a3⟩ | ⟨a1, a2, a3⟩
  · subst a3
    refine ⟨_, v, h1, fun _ _ _ => rfl, fun c1 v1 hE => ?_⟩
    rcases hE with ⟨b1, b2, b3⟩ | ⟨b1, b2, b3⟩
    · subst b3; exact ⟨b2.trans a2.symm, hM⟩
    · omega
  · refine ⟨g', v, h1, fun k j hk => a3.2.2 k j (by omega) (by omega), fun c1 v1 hE => ?_⟩
    rcases hE with ⟨b1, b2, b3⟩ | ⟨b1, b2, b3⟩
    · omega
    · refine ⟨b2.trans a2.symm, ?_⟩
      obtain ⟨m1, m2, m3, m4, m5, m6, m7, m8⟩ := hM
      have kc (k j : Nat) (q1 : ¬ (k = 47 ∧ j = 1)) (q2 : k ≠ 48) : c1 k j = c k j := b3.2.2 k j q1 q2
      have kg (k j : Nat) (q1 : ¬ (k = 127 ∧ j = 5)) (q2 : k ≠ 131) : g' k j = g k j := a3.2.2 k j q1 q2
      refine ⟨(m1.c_same fun k j a b => kc k j (by omega) (by omega)).g_same fun j => kg _ j (by omega) (by omega), (m2.c_same fun k j a b => kc k j (by omega) (by omega)).g_same fun j => kg _ j (by omega) (by omega), ?_, ?_, ?_, ?_, fun j hj => ?_, (m8.c_same fun k j a b => kc k j (by omega) (by omega)).g_same fun j => kg _ j (by omega) (by omega)⟩
      · rw [kg 127 0 (by omega) (by omega), kc 0 0 (by omega) (by omega)]; exact m3
      · rw [a3.1, b3.1]
      · rw [kg 127 7 (by omega) (by omega), kc 47 2 (by omega) (by omega)]; exact m5
      · rw [kg 127 8 (by omega) (by omega), kc 47 3 (by omega) (by omega)]; exact m6
      · rw [a3.2.1 j, b3.2.1 j, m7 j hj]
