/-! a byte of a long, by both shifts -/
theorem bv_mask (x : BitVec 64) (k : Nat) (hk : k ≤ 56) : x.sshiftRight k &&& 255#64 = (x >>> k) &&& 255#64 := by
  apply BitVec.eq_of_getLsbD_eq
  intro i hi
  simp only [BitVec.getLsbD_and, BitVec.getLsbD_sshiftRight, BitVec.getLsbD_ushiftRight]
  by_cases h8 : i < 8
  · have h1 : k + i < 64 := by omega
    have h2 : ¬ 64 ≤ i := by omega
    simp [h1, h2]
  · have h3 : (255#64).getLsbD i = false := by
      have : (255#64 : BitVec 64) = BitVec.setWidth 64 (255#8) := by decide
      rw [this, BitVec.getLsbD_setWidth]
      have : (255#8 : BitVec 8).getLsbD i = false := BitVec.getLsbD_of_ge _ _ (by omega)
      simp [this]
    simp [h3]
theorem bv_low (x : BitVec 64) : BitVec.setWidth 32 x &&& 255#32 = BitVec.setWidth 32 (x &&& 255#64) := by
  rw [BitVec.setWidth_and]
  rfl
theorem lg_s (wv : Int64) (k : Nat) (hk : k ≤ 56) (c : Int64) (hc : (c.toBitVec.smod 64).toNat = k) (u : UInt64) (hu : u.toNat % 64 = k) : (wv.toUInt64 >>> u).toInt64.toInt32 &&& 255 = (wv >>> c &&& 255).toInt32 := by
  apply Int32.toBitVec_inj.mp
  have e1 : (wv.toUInt64 >>> u).toInt64.toBitVec = wv.toBitVec >>> k := by
    show (wv.toUInt64 >>> u).toBitVec = _
    rw [UInt64.toBitVec_shiftRight]
    show wv.toBitVec >>> (u.toBitVec % 64) = _
    rw [BitVec.ushiftRight_eq', BitVec.toNat_umod]
    show wv.toBitVec >>> (u.toNat % 64) = _
    rw [hu]
  have e2 : (wv >>> c).toBitVec = wv.toBitVec.sshiftRight k := by
    show wv.toBitVec.sshiftRight' (c.toBitVec.smod 64) = _
    rw [BitVec.sshiftRight', hc]
  show BitVec.signExtend 32 (wv.toUInt64 >>> u).toInt64.toBitVec &&& 255#32 = BitVec.signExtend 32 ((wv >>> c).toBitVec &&& 255#64)
  rw [BitVec.signExtend_eq_setWidth_of_le _ (by decide), BitVec.signExtend_eq_setWidth_of_le _ (by decide), e1, e2, bv_mask _ _ hk, bv_low]
theorem by_eq (wv : Int64) {i : Nat} (hi : i < 8) : byX wv i = byY wv i := by
  rcases (show i = 0 ∨ i = 1 ∨ i = 2 ∨ i = 3 ∨ i = 4 ∨ i = 5 ∨ i = 6 ∨ i = 7 by omega) with rfl | rfl | rfl | rfl | rfl | rfl | rfl | rfl
  · exact lg_s wv 0 (by decide) _ (by decide +kernel) _ (by decide +kernel)
  · exact lg_s wv 8 (by decide) _ (by decide +kernel) _ (by decide +kernel)
  · exact lg_s wv 16 (by decide) _ (by decide +kernel) _ (by decide +kernel)
  · exact lg_s wv 24 (by decide) _ (by decide +kernel) _ (by decide +kernel)
  · exact lg_s wv 32 (by decide) _ (by decide +kernel) _ (by decide +kernel)
  · exact lg_s wv 40 (by decide) _ (by decide +kernel) _ (by decide +kernel)
  · exact lg_s wv 48 (by decide) _ (by decide +kernel) _ (by decide +kernel)
  · exact lg_s wv 56 (by decide) _ (by decide +kernel) _ (by decide +kernel)
theorem by_lt (wv : Int64) (i : Nat) : ∃ m, m < 256 ∧ byX wv i = nI m := by
  obtain ⟨j, hj, e⟩ := pk_andE ((wv.toUInt64 >>> ((8 * nI i).toInt64.toUInt64 &&& Int64.toUInt64 63)).toInt64.toInt32) (m := 255) 8 (by decide)
  exact ⟨j, hj, e⟩
