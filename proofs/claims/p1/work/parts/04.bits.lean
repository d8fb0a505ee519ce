theorem sh_b (k : Nat) (hk : k ≤ 24) (b : BitVec 32) : (b.sshiftRight k) &&& 255#32 = (b >>> k) &&& 255#32 := by
  have h8 : ∀ i : Nat, i < 32 → (255#32).getLsbD i = true → i < 8 := by decide
  apply BitVec.eq_of_getLsbD_eq
  intro i hi
  rw [BitVec.getLsbD_and, BitVec.getLsbD_and]
  cases hb : (255#32).getLsbD i with
  | false => rw [Bool.and_false, Bool.and_false]
  | true =>
    have := h8 i hi hb
    rw [Bool.and_true, Bool.and_true, BitVec.getLsbD_sshiftRight, BitVec.getLsbD_ushiftRight]
    rw [if_pos (by omega : k + i < 32)]
    have h9 : decide (32 ≤ i) = false := decide_eq_false (by omega)
    rw [h9, Bool.not_false, Bool.true_and]
theorem sh_24 (x : Int32) : (x >>> ((24 : Int32) &&& 31)) &&& 255 = us x 24 &&& 255 := Int32.toBitVec_inj.mp (sh_b 24 (by decide) x.toBitVec)
theorem sh_16 (x : Int32) : (x >>> ((16 : Int32) &&& 31)) &&& 255 = us x 16 &&& 255 := Int32.toBitVec_inj.mp (sh_b 16 (by decide) x.toBitVec)
theorem sh_8 (x : Int32) : (x >>> ((8 : Int32) &&& 31)) &&& 255 = us x 8 &&& 255 := Int32.toBitVec_inj.mp (sh_b 8 (by decide) x.toBitVec)
theorem sh_0 (x : Int32) : (x >>> ((0 : Int32) &&& 31)) &&& 255 = us x 0 &&& 255 := Int32.toBitVec_inj.mp (sh_b 0 (by decide) x.toBitVec)
