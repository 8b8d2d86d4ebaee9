/-! a place of the reference and the class's long for it -/
theorem t32 (x : Int64) : x.toInt32.toBitVec.toNat = x.toBitVec.toNat % 2 ^ 32 := by
  show (x.toBitVec.signExtend 32).toNat = _
  rw [BitVec.signExtend_eq_setWidth_of_le _ (by decide), BitVec.toNat_setWidth]
theorem tsh1 (v : Int64) (k : Nat) (s : UInt64) (hs : (s.toBitVec % 64).toNat = k) : ((v.toUInt64 >>> s).toInt64).toInt32.toBitVec.toNat = v.toBitVec.toNat / 2 ^ k % 2 ^ 32 := by
  rw [t32]
  show (v.toBitVec >>> (s.toBitVec % 64)).toNat % 2 ^ 32 = _
  rw [BitVec.ushiftRight_eq', hs, BitVec.toNat_ushiftRight, Nat.shiftRight_eq_div_pow]
theorem lN_tn {n : Nat} (h : n < 2 ^ 63) : (lN n).toBitVec.toNat = n := by
  show (BitVec.ofNat 64 n).toNat = n
  rw [BitVec.toNat_ofNat]; omega
theorem i32_tn {x : Int32} {n : Nat} (h : x.toBitVec.toNat = n) : x = nI n := by
  apply Int32.toBitVec_inj.mp
  apply BitVec.eq_of_toNat_eq
  rw [h]
  show n = (BitVec.ofNat 32 n).toNat
  rw [BitVec.toNat_ofNat]; have := x.toBitVec.isLt; omega

theorem vKd_n {v : Int64} : vKd v = nI (v.toBitVec.toNat / 2 ^ 32) := i32_tn (by
  have h := v.toBitVec.isLt
  rw [vKd, tsh1 v 32 _ (by decide)]; omega)
theorem vFr_n {v : Int64} : vFr v = nI (v.toBitVec.toNat % 2 ^ 8) := by
  rw [vFr, pk_and _ 8 (by decide), t32]; congr 1; omega
theorem vEn_n {v : Int64} : vEn v = nI (v.toBitVec.toNat / 2 ^ 8 % 2 ^ 8) := by
  rw [vEn, pk_and _ 8 (by decide), tsh1 v 8 _ (by decide)]; congr 1; omega
theorem vRi_n {v : Int64} : vRi v = nI (v.toBitVec.toNat / 2 ^ 16 % 2 ^ 8) := by
  rw [vRi, pk_and _ 8 (by decide), tsh1 v 16 _ (by decide)]; congr 1; omega
theorem vLk_n {v : Int64} : vLk v = nI (v.toBitVec.toNat / 2 ^ 24 % 2 ^ 8) := by
  rw [vLk, pk_and _ 8 (by decide), tsh1 v 24 _ (by decide)]; congr 1; omega
theorem nI64 {n : Nat} (h : n < 2 ^ 31) : (nI n).toInt64.toBitVec.toNat = n := by rw [nI_l h]; exact lN_tn (by omega)
theorem shl64 {n k : Nat} {s : Int64} (hs : (s.toBitVec.smod 64).toNat = k) (h : n < 2 ^ 31) (hk : n * 2 ^ k < 2 ^ 64) : ((nI n).toInt64 <<< s).toBitVec.toNat = n * 2 ^ k := by
  show ((nI n).toInt64.toBitVec <<< (s.toBitVec.smod 64)).toNat = _
  rw [BitVec.shiftLeft_eq', hs, BitVec.toNat_shiftLeft, nI64 h, Nat.shiftLeft_eq, Nat.mod_eq_of_lt hk]
theorem or_add {a b k : Nat} (h : b < 2 ^ k) : a * 2 ^ k ||| b = a * 2 ^ k + b := by
  rw [← Nat.shiftLeft_eq, ← Nat.shiftLeft_add_eq_or_of_lt h]
theorem vPk_n {k f e q l : Nat} (hk : k < 4) (hf : f < 256) (he : e < 256) (hq : q < 256) (hl : l < 256) : (vPk (nI k) (nI f) (nI e) (nI q) (nI l)).toBitVec.toNat = k * 2 ^ 32 + l * 2 ^ 24 + q * 2 ^ 16 + e * 2 ^ 8 + f := by
  unfold vPk
  rw [Int64.toBitVec_or, Int64.toBitVec_or, Int64.toBitVec_or, Int64.toBitVec_or, BitVec.toNat_or, BitVec.toNat_or, BitVec.toNat_or, BitVec.toNat_or,
    shl64 (k := 32) (by decide) (by omega) (by omega), shl64 (k := 24) (by decide) (by omega) (by omega), shl64 (k := 16) (by decide) (by omega) (by omega), shl64 (k := 8) (by decide) (by omega) (by omega), nI64 (by omega)]
  rw [or_add (show l * 2 ^ 24 < 2 ^ 32 by omega), show k * 2 ^ 32 + l * 2 ^ 24 = (k * 2 ^ 8 + l) * 2 ^ 24 by omega, or_add (show q * 2 ^ 16 < 2 ^ 24 by omega), show (k * 2 ^ 8 + l) * 2 ^ 24 + q * 2 ^ 16 = (k * 2 ^ 16 + l * 2 ^ 8 + q) * 2 ^ 16 by omega, or_add (show e * 2 ^ 8 < 2 ^ 16 by omega), show (k * 2 ^ 16 + l * 2 ^ 8 + q) * 2 ^ 16 + e * 2 ^ 8 = (k * 2 ^ 24 + l * 2 ^ 16 + q * 2 ^ 8 + e) * 2 ^ 8 by omega, or_add (show f < 2 ^ 8 by omega)]
theorem vNu_n {n : Int32} : (vNu n).toBitVec.toNat = n.toBitVec.toNat := by
  have h := n.toBitVec.isLt
  show ((n.toBitVec.signExtend 64) &&& (4294967295#64)).toNat = _
  rw [BitVec.toNat_and, show (4294967295#64).toNat = 2 ^ 32 - 1 from rfl, Nat.and_two_pow_sub_one_eq_mod]
  rw [BitVec.toNat_signExtend]
  split
  · rw [BitVec.toNat_setWidth]; omega
  · rw [BitVec.toNat_setWidth]; omega
theorem vNu_k {n : Int32} : vKd (vNu n) = 0 := by
  have h := n.toBitVec.isLt
  rw [vKd_n, vNu_n, show n.toBitVec.toNat / 2 ^ 32 = 0 by omega]; rfl
theorem vNu_v {n : Int32} : (vNu n).toInt32 = n := by
  have h := n.toBitVec.isLt
  apply Int32.toBitVec_inj.mp
  apply BitVec.eq_of_toNat_eq
  rw [t32, vNu_n]; omega
theorem vPk_k {k f e q l : Nat} (hk : k < 4) (hf : f < 256) (he : e < 256) (hq : q < 256) (hl : l < 256) : vKd (vPk (nI k) (nI f) (nI e) (nI q) (nI l)) = nI k := by rw [vKd_n, vPk_n hk hf he hq hl]; congr 1; omega
theorem vPk_f {k f e q l : Nat} (hk : k < 4) (hf : f < 256) (he : e < 256) (hq : q < 256) (hl : l < 256) : vFr (vPk (nI k) (nI f) (nI e) (nI q) (nI l)) = nI f := by rw [vFr_n, vPk_n hk hf he hq hl]; congr 1; omega
theorem vPk_e {k f e q l : Nat} (hk : k < 4) (hf : f < 256) (he : e < 256) (hq : q < 256) (hl : l < 256) : vEn (vPk (nI k) (nI f) (nI e) (nI q) (nI l)) = nI e := by rw [vEn_n, vPk_n hk hf he hq hl]; congr 1; omega
theorem vPk_q {k f e q l : Nat} (hk : k < 4) (hf : f < 256) (he : e < 256) (hq : q < 256) (hl : l < 256) : vRi (vPk (nI k) (nI f) (nI e) (nI q) (nI l)) = nI q := by rw [vRi_n, vPk_n hk hf he hq hl]; congr 1; omega
theorem vPk_l {k f e q l : Nat} (hk : k < 4) (hf : f < 256) (he : e < 256) (hq : q < 256) (hl : l < 256) : vLk (vPk (nI k) (nI f) (nI e) (nI q) (nI l)) = nI l := by rw [vLk_n, vPk_n hk hf he hq hl]; congr 1; omega
