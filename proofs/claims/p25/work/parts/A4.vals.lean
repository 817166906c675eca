-- WHAT A FIELD TELLS: the class's and the reference's words for it
theorem shl_toInt (x : Int32) (s : Int32) (k : Nat) (hs : (s.toBitVec.smod 32).toNat = k) : (x <<< s).toInt = (x.toInt * 2 ^ k).bmod (2 ^ 32) := by
  show (x <<< s).toBitVec.toInt = _
  rw [Int32.toBitVec_shiftLeft]
  show (x.toBitVec <<< (s.toBitVec.smod 32).toNat).toInt = _
  rw [hs, BitVec.toInt_shiftLeft]
  show _ = (x.toBitVec.toInt * 2 ^ k).bmod (2 ^ 32)
  rw [Nat.shiftLeft_eq, BitVec.toInt_eq_toNat_bmod, Int.natCast_mul, Int.natCast_pow, Int.bmod_mul_bmod]
  rfl
theorem sh24 (x : Int32) : (x <<< (24 &&& 31)) >>> (24 &&& 31) = x.toInt8.toInt32 := by
  apply Int32.toInt_inj.mp
  rw [pk_shr _ _ 24 (by decide), shl_toInt x _ 24 (by decide), Int8.toInt_toInt32, Int32.toInt_toInt8, Int.shiftRight_eq_div_pow]
  have h1 := Int32.toInt_lt x
  have h2 := Int32.le_toInt x
  simp only [Int.bmod_def]
  omega
theorem sh16 (x : Int32) : (x <<< (16 &&& 31)) >>> (16 &&& 31) = x.toInt16.toInt32 := by
  apply Int32.toInt_inj.mp
  rw [pk_shr _ _ 16 (by decide), shl_toInt x _ 16 (by decide), Int16.toInt_toInt32, Int32.toInt_toInt16, Int.shiftRight_eq_div_pow]
  have h1 := Int32.toInt_lt x
  have h2 := Int32.le_toInt x
  simp only [Int.bmod_def]
  omega
theorem ch16 (v : Int64) : v &&& 65535 = (v.toInt32.toUInt32 % 65536).toInt32.toInt64 := by
  have hn : ∀ a b : Int64, a.toBitVec.toNat = b.toBitVec.toNat → a = b := fun a b e => Int64.toBitVec_inj.mp (BitVec.eq_of_toNat_eq e)
  apply hn
  have e1 : (v &&& 65535).toBitVec.toNat = v.toBitVec.toNat % 65536 := by
    rw [Int64.toBitVec_and, BitVec.toNat_and]
    show v.toBitVec.toNat &&& 65535 = _
    exact Nat.and_two_pow_sub_one_eq_mod _ 16
  rw [e1]
  have e2 : (v.toInt32.toUInt32 % 65536).toNat = v.toBitVec.toNat % 65536 := by
    rw [UInt32.toNat_mod]
    show v.toInt32.toBitVec.toNat % 65536 = _
    rw [Int64.toBitVec_toInt32, BitVec.signExtend_eq_setWidth_of_le _ (by decide), BitVec.toNat_setWidth]
    omega
  generalize v.toInt32.toUInt32 % 65536 = u at e2
  have hb : u.toInt32.toInt = (u.toNat : Int) := by
    show u.toInt32.toBitVec.toInt = _
    rw [UInt32.toBitVec_toInt32, BitVec.toInt_eq_toNat_of_lt (by show 2 * u.toNat < 2 ^ 32; omega)]
    rfl
  have hc : u.toInt32.toInt64.toInt = (u.toNat : Int) := by rw [Int32.toInt_toInt64, hb]
  have hd : (u.toInt32.toInt64.toBitVec.toNat : Int) = (u.toNat : Int) := by
    have h3 : u.toInt32.toInt64.toBitVec.toInt = (u.toNat : Int) := hc
    rw [BitVec.toInt_eq_toNat_cond] at h3
    split at h3
    · exact h3
    · omega
  omega
theorem val_0 {w : Int32} {v : Int64} (e : w.toInt = 0) : rs_val w v = ks_as w v := by
  have hcl := clamp_int (i := w) (by omega)
  have hf : (FORMt (Int32.toNatClampNeg w)).toInt = 0 := by
    rw [show Int32.toNatClampNeg w = 0 by omega]
    decide
  unfold rs_val ks_as
  rw [if_pos (by omega), if_pos (by omega)]
theorem val_1 {w : Int32} {v : Int64} (e : w.toInt = 1) : rs_val w v = ks_as w v := by
  have hcl := clamp_int (i := w) (by omega)
  have hf : (FORMt (Int32.toNatClampNeg w)).toInt = 1 := by
    rw [show Int32.toNatClampNeg w = 1 by omega]
    decide
  unfold rs_val ks_as
  rw [if_neg (by omega), if_pos (by omega), if_neg (by omega), if_pos (by omega)]
  rw [sh24]
theorem val_2 {w : Int32} {v : Int64} (e : w.toInt = 2) : rs_val w v = ks_as w v := by
  have hcl := clamp_int (i := w) (by omega)
  have hf : (FORMt (Int32.toNatClampNeg w)).toInt = 2 := by
    rw [show Int32.toNatClampNeg w = 2 by omega]
    decide
  unfold rs_val ks_as
  rw [if_neg (by omega), if_neg (by omega), if_pos (by omega), if_neg (by omega), if_neg (by omega), if_pos (by omega)]
  rw [sh16]
theorem val_3 {w : Int32} {v : Int64} (e : w.toInt = 3) : rs_val w v = ks_as w v := by
  have hcl := clamp_int (i := w) (by omega)
  have hf : (FORMt (Int32.toNatClampNeg w)).toInt = 3 := by
    rw [show Int32.toNatClampNeg w = 3 by omega]
    decide
  unfold rs_val ks_as
  rw [if_neg (by omega), if_neg (by omega), if_neg (by omega), if_pos (by omega), if_neg (by omega), if_neg (by omega), if_neg (by omega), if_pos (by omega)]
  exact ch16 v
theorem val_4 {w : Int32} {v : Int64} (e : w.toInt = 4) : rs_val w v = ks_as w v := by
  have hcl := clamp_int (i := w) (by omega)
  have hf : (FORMt (Int32.toNatClampNeg w)).toInt = 4 := by
    rw [show Int32.toNatClampNeg w = 4 by omega]
    decide
  unfold rs_val ks_as
  rw [if_neg (by omega), if_neg (by omega), if_neg (by omega), if_neg (by omega), if_neg (by omega), if_neg (by omega), if_neg (by omega), if_neg (by omega), if_neg (by omega), if_neg (by omega), if_neg (by omega), if_pos (by omega)]
theorem val_5 {w : Int32} {v : Int64} (e : w.toInt = 5) : rs_val w v = ks_as w v := by
  have hcl := clamp_int (i := w) (by omega)
  have hf : (FORMt (Int32.toNatClampNeg w)).toInt = 5 := by
    rw [show Int32.toNatClampNeg w = 5 by omega]
    decide
  unfold rs_val ks_as
  rw [if_neg (by omega), if_neg (by omega), if_neg (by omega), if_neg (by omega), if_pos (by omega), if_neg (by omega), if_neg (by omega), if_neg (by omega), if_neg (by omega), if_neg (by omega), if_neg (by omega), if_neg (by omega)]
theorem val_6 {w : Int32} {v : Int64} (e : w.toInt = 6) : rs_val w v = ks_as w v := by
  have hcl := clamp_int (i := w) (by omega)
  have hf : (FORMt (Int32.toNatClampNeg w)).toInt = 6 := by
    rw [show Int32.toNatClampNeg w = 6 by omega]
    decide
  have hL : rs_val w v = (if 2139095040 < (v.toInt32 &&& 2147483647).toInt then 2143289344 else v.toInt32.toInt64) := by
    unfold rs_val
    rw [if_neg (by omega), if_neg (by omega), if_neg (by omega), if_neg (by omega), if_neg (by omega), if_pos (by omega)]
  have hR : ks_as w v = (sp_ft v.toInt32).toInt64 := by
    unfold ks_as
    rw [if_neg (by omega), if_neg (by omega), if_neg (by omega), if_neg (by omega), if_neg (by omega), if_pos (by omega)]
  rw [hL, hR]
  unfold sp_ft
  by_cases hq : 2139095040 < (v.toInt32 &&& 2147483647).toInt
  · rw [if_pos hq, if_pos hq]
    decide
  · rw [if_neg hq, if_neg hq]
theorem val_7 {w : Int32} {v : Int64} (e : w.toInt = 7) : rs_val w v = ks_as w v := by
  have hcl := clamp_int (i := w) (by omega)
  have hf : (FORMt (Int32.toNatClampNeg w)).toInt = 7 := by
    rw [show Int32.toNatClampNeg w = 7 by omega]
    decide
  have hL : rs_val w v = (if 9218868437227405312 < (v &&& 9223372036854775807).toInt then 9221120237041090560 else v) := by
    unfold rs_val
    rw [if_neg (by omega), if_neg (by omega), if_neg (by omega), if_neg (by omega), if_neg (by omega), if_neg (by omega), if_pos (by omega)]
  have hR : ks_as w v = sp_dt v := by
    unfold ks_as
    rw [if_neg (by omega), if_neg (by omega), if_neg (by omega), if_neg (by omega), if_neg (by omega), if_neg (by omega), if_pos (by omega)]
  rw [hL, hR]
  rfl
theorem val_10 {w : Int32} {v : Int64} (e : w.toInt = 10) : rs_val w v = ks_as w v := by
  have hcl := clamp_int (i := w) (by omega)
  have hf : (FORMt (Int32.toNatClampNeg w)).toInt = 4 := by
    rw [show Int32.toNatClampNeg w = 10 by omega]
    decide
  unfold rs_val ks_as
  rw [if_neg (by omega), if_neg (by omega), if_neg (by omega), if_neg (by omega), if_neg (by omega), if_neg (by omega), if_neg (by omega), if_neg (by omega), if_neg (by omega), if_neg (by omega), if_neg (by omega), if_pos (by omega)]
theorem val_12 {w : Int32} {v : Int64} (e : w.toInt = 12) : rs_val w v = ks_as w v := by
  have hcl := clamp_int (i := w) (by omega)
  have hf : (FORMt (Int32.toNatClampNeg w)).toInt = 5 := by
    rw [show Int32.toNatClampNeg w = 12 by omega]
    decide
  unfold rs_val ks_as
  rw [if_neg (by omega), if_neg (by omega), if_neg (by omega), if_neg (by omega), if_pos (by omega), if_neg (by omega), if_neg (by omega), if_neg (by omega), if_neg (by omega), if_neg (by omega), if_neg (by omega), if_neg (by omega)]
theorem val_13 {w : Int32} {v : Int64} (e : w.toInt = 13) : rs_val w v = ks_as w v := by
  have hcl := clamp_int (i := w) (by omega)
  have hf : (FORMt (Int32.toNatClampNeg w)).toInt = 4 := by
    rw [show Int32.toNatClampNeg w = 13 by omega]
    decide
  unfold rs_val ks_as
  rw [if_neg (by omega), if_neg (by omega), if_neg (by omega), if_neg (by omega), if_neg (by omega), if_neg (by omega), if_neg (by omega), if_neg (by omega), if_neg (by omega), if_neg (by omega), if_neg (by omega), if_pos (by omega)]
theorem val_14 {w : Int32} {v : Int64} (e : w.toInt = 14) : rs_val w v = ks_as w v := by
  have hcl := clamp_int (i := w) (by omega)
  have hf : (FORMt (Int32.toNatClampNeg w)).toInt = 7 := by
    rw [show Int32.toNatClampNeg w = 14 by omega]
    decide
  have hL : rs_val w v = (if 9218868437227405312 < (v &&& 9223372036854775807).toInt then 9221120237041090560 else v) := by
    unfold rs_val
    rw [if_neg (by omega), if_neg (by omega), if_neg (by omega), if_neg (by omega), if_neg (by omega), if_neg (by omega), if_pos (by omega)]
  have hR : ks_as w v = sp_dt v := by
    unfold ks_as
    rw [if_neg (by omega), if_neg (by omega), if_neg (by omega), if_neg (by omega), if_neg (by omega), if_neg (by omega), if_pos (by omega)]
  rw [hL, hR]
  rfl
theorem val_16 {w : Int32} {v : Int64} (e : w.toInt = 16) : rs_val w v = ks_as w v := by
  have hcl := clamp_int (i := w) (by omega)
  have hf : (FORMt (Int32.toNatClampNeg w)).toInt = 4 := by
    rw [show Int32.toNatClampNeg w = 16 by omega]
    decide
  unfold rs_val ks_as
  rw [if_neg (by omega), if_neg (by omega), if_neg (by omega), if_neg (by omega), if_neg (by omega), if_neg (by omega), if_neg (by omega), if_neg (by omega), if_neg (by omega), if_neg (by omega), if_neg (by omega), if_pos (by omega)]
theorem val_is {w : Int32} {v : Int64} (hw : 0 ≤ w.toInt ∧ w.toInt < 17 ∧ ¬ w.toInt = 8 ∧ ¬ w.toInt = 9 ∧ ¬ w.toInt = 11 ∧ ¬ w.toInt = 15) : rs_val w v = ks_as w v := by
  rcases (show w.toInt = 0 ∨ w.toInt = 1 ∨ w.toInt = 2 ∨ w.toInt = 3 ∨ w.toInt = 4 ∨ w.toInt = 5 ∨ w.toInt = 6 ∨ w.toInt = 7 ∨ w.toInt = 10 ∨ w.toInt = 12 ∨ w.toInt = 13 ∨ w.toInt = 14 ∨ w.toInt = 16 by omega) with e | e | e | e | e | e | e | e | e | e | e | e | e
  · exact val_0 e
  · exact val_1 e
  · exact val_2 e
  · exact val_3 e
  · exact val_4 e
  · exact val_5 e
  · exact val_6 e
  · exact val_7 e
  · exact val_10 e
  · exact val_12 e
  · exact val_13 e
  · exact val_14 e
  · exact val_16 e

