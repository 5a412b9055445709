/-! BITS -/
theorem pb_tn {n : Nat} (h : n < 2 ^ 64) : (lN n).toBitVec.toNat = n := Nat.mod_eq_of_lt h
theorem pb_or {k a b : Nat} (hb : b < 2 ^ k) (h : a * 2 ^ k + b < 2 ^ 64) : lN (a * 2 ^ k) ||| lN b = lN (a * 2 ^ k + b) := by
  apply Int64.toBitVec_inj.mp
  apply BitVec.eq_of_toNat_eq
  rw [Int64.toBitVec_or, BitVec.toNat_or, pb_tn (by omega), pb_tn (by omega), pb_tn h, Nat.mul_comm a, Nat.two_pow_add_eq_or_of_lt hb]
theorem pb_or' {k a b : Nat} (hb : b < 2 ^ k) (h : a * 2 ^ k + b < 2 ^ 64) : lN b ||| lN (a * 2 ^ k) = lN (a * 2 ^ k + b) := by
  rw [Int64.or_comm, pb_or hb h]
theorem pb_shl {a k : Nat} {y : Int64} (hy : y.toBitVec.smod 64 = BitVec.ofNat 64 k) (hk : k < 64) (ha : a * 2 ^ k < 2 ^ 64) : lN a <<< y = lN (a * 2 ^ k) := by
  apply Int64.toBitVec_inj.mp
  apply BitVec.eq_of_toNat_eq
  have ha' : a < 2 ^ 64 := by
    have := Nat.le_mul_of_pos_right a (Nat.two_pow_pos k)
    omega
  have hk' : (BitVec.ofNat 64 k).toNat = k := Nat.mod_eq_of_lt (by omega)
  rw [Int64.toBitVec_shiftLeft, hy, BitVec.shiftLeft_eq', BitVec.toNat_shiftLeft, pb_tn ha', hk', Nat.shiftLeft_eq, pb_tn ha, Nat.mod_eq_of_lt ha]
theorem pb_st {a b k : Nat} {y : Int64} (hy : y.toBitVec.smod 64 = BitVec.ofNat 64 k) (hk : k < 64) (hb : b < 2 ^ k) (h : a * 2 ^ k + b < 2 ^ 64) : (lN a <<< y) ||| lN b = lN (a * 2 ^ k + b) := by
  rw [pb_shl hy hk (by omega), pb_or hb h]
theorem pb_st' {a b k : Nat} {y : Int64} (hy : y.toBitVec.smod 64 = BitVec.ofNat 64 k) (hk : k < 64) (hb : b < 2 ^ k) (h : a * 2 ^ k + b < 2 ^ 64) : lN b ||| (lN a <<< y) = lN (a * 2 ^ k + b) := by
  rw [pb_shl hy hk (by omega), pb_or' hb h]
theorem pb_low : ∀ (g : Fin 16) (t : Fin 17) (r : Fin 8), (nI g.val ||| (nI t.val <<< (4 &&& 31))) ||| (nI r.val <<< (9 &&& 31)) = nI (r.val * 512 + (t.val * 16 + g.val)) := by decide +kernel
theorem pb_bt : ∀ (b : Fin 256) (k : Fin 8), ((nI b.val &&& ((1 : Int32) <<< (nI k.val &&& 31))) = 0 ∧ ((nI b.val >>> (nI k.val &&& 31)) &&& 1) = 0) ∨ (¬ (nI b.val &&& ((1 : Int32) <<< (nI k.val &&& 31))) = 0 ∧ ((nI b.val >>> (nI k.val &&& 31)) &&& 1) = 1) := by decide +kernel
theorem pb_xo : ∀ (b : Fin 256) (k : Fin 8), ∃ c : Fin 256, nI b.val ^^^ ((1 : Int32) <<< (nI k.val &&& 31)) = nI c.val := by
  intro b k
  refine ⟨⟨(nI b.val ^^^ ((1 : Int32) <<< (nI k.val &&& 31))).toNatClampNeg, ?_⟩, ?_⟩
  · revert b k
    decide +kernel
  · revert b k
    decide +kernel
def pb_1 (v : Int32) : Int32 := v - (((Int32.toUInt32 v >>> (Int32.toUInt32 1 &&& Int32.toUInt32 31)).toInt32) &&& 1431655765)
def pb_2 (v : Int32) : Int32 := (v &&& 858993459) + (((Int32.toUInt32 v >>> (Int32.toUInt32 2 &&& Int32.toUInt32 31)).toInt32) &&& 858993459)
def pb_3 (v : Int32) : Int32 := (v + ((Int32.toUInt32 v >>> (Int32.toUInt32 4 &&& Int32.toUInt32 31)).toInt32)) &&& 252645135
def pb_4 (v : Int32) : Int32 := v + ((Int32.toUInt32 v >>> (Int32.toUInt32 8 &&& Int32.toUInt32 31)).toInt32)
def pb_5 (v : Int32) : Int32 := v + ((Int32.toUInt32 v >>> (Int32.toUInt32 16 &&& Int32.toUInt32 31)).toInt32)
theorem pb_bc : ∀ b : Fin 256, pb_5 (pb_4 (pb_3 (pb_2 (pb_1 (nI b.val))))) &&& 63 = st_bits (nI b.val) := by decide +kernel
theorem xp_bitCount {l : Launch} {G : ev_G} {h : ev_AH} {b : Nat} (hb : b < 256) : Mt l G M_Ji_bitCount [.int (nI b)] h (ev_pi (fun q h' => q = st_bits (nI b) ∧ h' = h) (fun _ _ => False)) := by
  refine vJi_bitCount (fun x1 e1 x2 e2 x3 e3 x4 e4 x5 e5 => ?_)
  refine ⟨?_, rfl⟩
  rw [← pb_bc ⟨b, hb⟩, e5, e4, e3, e2, e1]
  rfl
def pb_N (i ag lv s p hh w r t g : Nat) : Nat := ((((((((i * 2 ^ 1 + ag) * 2 ^ 1 + lv) * 2 ^ 10 + s) * 2 ^ 10 + p) * 2 ^ 10 + hh) * 2 ^ 10 + w) * 2 ^ 3 + r) * 2 ^ 5 + t) * 2 ^ 4 + g
theorem pb_cls {i ag lv s p hh w r t g : Nat} (hi : i < 20) (ha : ag < 2) (hl : lv < 2) (hs : s < 1024) (hp : p < 1024) (h1 : hh < 1024) (hw : w < 1024) (hr : r < 8) (ht : t < 32) (hg : g < 16) :
    ((((((((((((((((((lN i <<< (Int32.toInt64 1 &&& 63)) ||| lN ag) <<< (Int32.toInt64 1 &&& 63)) ||| lN lv) <<< (Int32.toInt64 10 &&& 63)) ||| lN s) <<< (Int32.toInt64 10 &&& 63)) ||| lN p) <<< (Int32.toInt64 10 &&& 63)) ||| lN hh) <<< (Int32.toInt64 10 &&& 63)) ||| lN w) <<< (Int32.toInt64 3 &&& 63)) ||| lN r) <<< (Int32.toInt64 5 &&& 63)) ||| lN t) <<< (Int32.toInt64 4 &&& 63)) ||| lN g) = lN (pb_N i ag lv s p hh w r t g) := by
  rw [pb_st (k := 1) (by decide +kernel) (by decide) (by omega) (by omega), pb_st (k := 1) (by decide +kernel) (by decide) (by omega) (by omega), pb_st (k := 10) (by decide +kernel) (by decide) (by omega) (by omega), pb_st (k := 10) (by decide +kernel) (by decide) (by omega) (by omega), pb_st (k := 10) (by decide +kernel) (by decide) (by omega) (by omega), pb_st (k := 10) (by decide +kernel) (by decide) (by omega) (by omega), pb_st (k := 3) (by decide +kernel) (by decide) (by omega) (by omega), pb_st (k := 5) (by decide +kernel) (by decide) (by omega) (by omega), pb_st (k := 4) (by decide +kernel) (by decide) (by omega) (by omega)]
  rfl
theorem pb_ref {i ag lv s p hh w r t g : Nat} {H : Int64} (hi : i < 20) (ha : ag < 2) (hl : lv < 2) (hs : s < 1024) (hp : p < 1024) (h1 : hh < 1024) (hw : w < 1024) (hr : r < 8) (ht : t < 17) (hg : g < 16) (eH : H = lN (ag * 2 ^ 1 + lv)) :
    (Int32.toInt64 ((nI g ||| (nI t <<< (4 &&& 31))) ||| (nI r <<< (9 &&& 31))) ||| ((((lN w ||| (lN hh <<< (Int32.toInt64 10 &&& 63))) ||| (lN p <<< (Int32.toInt64 20 &&& 63))) ||| (lN s <<< (Int32.toInt64 30 &&& 63))) <<< (Int32.toInt64 12 &&& 63))) ||| ((H ||| (lN i <<< (Int32.toInt64 2 &&& 63))) <<< (Int32.toInt64 52 &&& 63)) = lN (pb_N i ag lv s p hh w r t g) := by
  rw [eH, pb_low ⟨g, hg⟩ ⟨t, ht⟩ ⟨r, hr⟩]
  simp only
  rw [nI_l (by omega), pb_st' (k := 10) (by decide +kernel) (by decide) (by omega) (by omega), pb_st' (k := 20) (by decide +kernel) (by decide) (by omega) (by omega), pb_st' (k := 30) (by decide +kernel) (by decide) (by omega) (by omega), pb_st' (k := 12) (by decide +kernel) (by decide) (by omega) (by omega), pb_st' (k := 2) (by decide +kernel) (by decide) (by omega) (by omega), pb_st' (k := 52) (by decide +kernel) (by decide) (by omega) (by omega)]
  unfold pb_N
  congr 1
  omega
