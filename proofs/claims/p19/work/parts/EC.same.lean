theorem usE_0 (x : Int32) (h : x.toBitVec.msb = false) : ((x.toUInt32 >>> ((0 : Int32).toUInt32 &&& Int32.toUInt32 31)).toInt32) = (x >>> ((0 : Int32) &&& 31)) := by
  apply Int32.toBitVec_inj.mp
  have e1 : ((0 : Int32).toUInt32 &&& Int32.toUInt32 31) = (0 : UInt32) := by decide
  have e2 : ((0 : Int32) &&& 31) = 0 := by decide
  rw [e1, e2, Int32.toBitVec_shiftRight]
  simp [UInt32.toBitVec_shiftRight, BitVec.sshiftRight_eq_of_msb_false h]
theorem usN_0 (x : Int32) (h : x.toBitVec.msb = true) : ((x.toUInt32 >>> ((0 : Int32).toUInt32 &&& Int32.toUInt32 31)).toInt32) ≠ 0 := by
  intro q
  have e1 : ((0 : Int32).toUInt32 &&& Int32.toUInt32 31) = (0 : UInt32) := by decide
  rw [e1] at q
  have q2 := congrArg (fun z : Int32 => z.toBitVec.getLsbD (31 - 0)) q
  simp [UInt32.toBitVec_shiftRight] at q2
  rw [BitVec.msb_eq_getLsbD_last] at h
  simp at h
  simp_all
theorem usE_1 (x : Int32) (h : x.toBitVec.msb = false) : ((x.toUInt32 >>> ((1 : Int32).toUInt32 &&& Int32.toUInt32 31)).toInt32) = (x >>> ((1 : Int32) &&& 31)) := by
  apply Int32.toBitVec_inj.mp
  have e1 : ((1 : Int32).toUInt32 &&& Int32.toUInt32 31) = (1 : UInt32) := by decide
  have e2 : ((1 : Int32) &&& 31) = 1 := by decide
  rw [e1, e2, Int32.toBitVec_shiftRight]
  simp [UInt32.toBitVec_shiftRight, BitVec.sshiftRight_eq_of_msb_false h]
theorem usN_1 (x : Int32) (h : x.toBitVec.msb = true) : ((x.toUInt32 >>> ((1 : Int32).toUInt32 &&& Int32.toUInt32 31)).toInt32) ≠ 0 := by
  intro q
  have e1 : ((1 : Int32).toUInt32 &&& Int32.toUInt32 31) = (1 : UInt32) := by decide
  rw [e1] at q
  have q2 := congrArg (fun z : Int32 => z.toBitVec.getLsbD (31 - 1)) q
  simp [UInt32.toBitVec_shiftRight] at q2
  rw [BitVec.msb_eq_getLsbD_last] at h
  simp at h
  simp_all
theorem usE_2 (x : Int32) (h : x.toBitVec.msb = false) : ((x.toUInt32 >>> ((2 : Int32).toUInt32 &&& Int32.toUInt32 31)).toInt32) = (x >>> ((2 : Int32) &&& 31)) := by
  apply Int32.toBitVec_inj.mp
  have e1 : ((2 : Int32).toUInt32 &&& Int32.toUInt32 31) = (2 : UInt32) := by decide
  have e2 : ((2 : Int32) &&& 31) = 2 := by decide
  rw [e1, e2, Int32.toBitVec_shiftRight]
  simp [UInt32.toBitVec_shiftRight, BitVec.sshiftRight_eq_of_msb_false h]
theorem usN_2 (x : Int32) (h : x.toBitVec.msb = true) : ((x.toUInt32 >>> ((2 : Int32).toUInt32 &&& Int32.toUInt32 31)).toInt32) ≠ 0 := by
  intro q
  have e1 : ((2 : Int32).toUInt32 &&& Int32.toUInt32 31) = (2 : UInt32) := by decide
  rw [e1] at q
  have q2 := congrArg (fun z : Int32 => z.toBitVec.getLsbD (31 - 2)) q
  simp [UInt32.toBitVec_shiftRight] at q2
  rw [BitVec.msb_eq_getLsbD_last] at h
  simp at h
  simp_all
theorem usE_3 (x : Int32) (h : x.toBitVec.msb = false) : ((x.toUInt32 >>> ((3 : Int32).toUInt32 &&& Int32.toUInt32 31)).toInt32) = (x >>> ((3 : Int32) &&& 31)) := by
  apply Int32.toBitVec_inj.mp
  have e1 : ((3 : Int32).toUInt32 &&& Int32.toUInt32 31) = (3 : UInt32) := by decide
  have e2 : ((3 : Int32) &&& 31) = 3 := by decide
  rw [e1, e2, Int32.toBitVec_shiftRight]
  simp [UInt32.toBitVec_shiftRight, BitVec.sshiftRight_eq_of_msb_false h]
theorem usN_3 (x : Int32) (h : x.toBitVec.msb = true) : ((x.toUInt32 >>> ((3 : Int32).toUInt32 &&& Int32.toUInt32 31)).toInt32) ≠ 0 := by
  intro q
  have e1 : ((3 : Int32).toUInt32 &&& Int32.toUInt32 31) = (3 : UInt32) := by decide
  rw [e1] at q
  have q2 := congrArg (fun z : Int32 => z.toBitVec.getLsbD (31 - 3)) q
  simp [UInt32.toBitVec_shiftRight] at q2
  rw [BitVec.msb_eq_getLsbD_last] at h
  simp at h
  simp_all
theorem usE_4 (x : Int32) (h : x.toBitVec.msb = false) : ((x.toUInt32 >>> ((4 : Int32).toUInt32 &&& Int32.toUInt32 31)).toInt32) = (x >>> ((4 : Int32) &&& 31)) := by
  apply Int32.toBitVec_inj.mp
  have e1 : ((4 : Int32).toUInt32 &&& Int32.toUInt32 31) = (4 : UInt32) := by decide
  have e2 : ((4 : Int32) &&& 31) = 4 := by decide
  rw [e1, e2, Int32.toBitVec_shiftRight]
  simp [UInt32.toBitVec_shiftRight, BitVec.sshiftRight_eq_of_msb_false h]
theorem usN_4 (x : Int32) (h : x.toBitVec.msb = true) : ((x.toUInt32 >>> ((4 : Int32).toUInt32 &&& Int32.toUInt32 31)).toInt32) ≠ 0 := by
  intro q
  have e1 : ((4 : Int32).toUInt32 &&& Int32.toUInt32 31) = (4 : UInt32) := by decide
  rw [e1] at q
  have q2 := congrArg (fun z : Int32 => z.toBitVec.getLsbD (31 - 4)) q
  simp [UInt32.toBitVec_shiftRight] at q2
  rw [BitVec.msb_eq_getLsbD_last] at h
  simp at h
  simp_all
theorem usE_5 (x : Int32) (h : x.toBitVec.msb = false) : ((x.toUInt32 >>> ((5 : Int32).toUInt32 &&& Int32.toUInt32 31)).toInt32) = (x >>> ((5 : Int32) &&& 31)) := by
  apply Int32.toBitVec_inj.mp
  have e1 : ((5 : Int32).toUInt32 &&& Int32.toUInt32 31) = (5 : UInt32) := by decide
  have e2 : ((5 : Int32) &&& 31) = 5 := by decide
  rw [e1, e2, Int32.toBitVec_shiftRight]
  simp [UInt32.toBitVec_shiftRight, BitVec.sshiftRight_eq_of_msb_false h]
theorem usN_5 (x : Int32) (h : x.toBitVec.msb = true) : ((x.toUInt32 >>> ((5 : Int32).toUInt32 &&& Int32.toUInt32 31)).toInt32) ≠ 0 := by
  intro q
  have e1 : ((5 : Int32).toUInt32 &&& Int32.toUInt32 31) = (5 : UInt32) := by decide
  rw [e1] at q
  have q2 := congrArg (fun z : Int32 => z.toBitVec.getLsbD (31 - 5)) q
  simp [UInt32.toBitVec_shiftRight] at q2
  rw [BitVec.msb_eq_getLsbD_last] at h
  simp at h
  simp_all
theorem usE_6 (x : Int32) (h : x.toBitVec.msb = false) : ((x.toUInt32 >>> ((6 : Int32).toUInt32 &&& Int32.toUInt32 31)).toInt32) = (x >>> ((6 : Int32) &&& 31)) := by
  apply Int32.toBitVec_inj.mp
  have e1 : ((6 : Int32).toUInt32 &&& Int32.toUInt32 31) = (6 : UInt32) := by decide
  have e2 : ((6 : Int32) &&& 31) = 6 := by decide
  rw [e1, e2, Int32.toBitVec_shiftRight]
  simp [UInt32.toBitVec_shiftRight, BitVec.sshiftRight_eq_of_msb_false h]
theorem usN_6 (x : Int32) (h : x.toBitVec.msb = true) : ((x.toUInt32 >>> ((6 : Int32).toUInt32 &&& Int32.toUInt32 31)).toInt32) ≠ 0 := by
  intro q
  have e1 : ((6 : Int32).toUInt32 &&& Int32.toUInt32 31) = (6 : UInt32) := by decide
  rw [e1] at q
  have q2 := congrArg (fun z : Int32 => z.toBitVec.getLsbD (31 - 6)) q
  simp [UInt32.toBitVec_shiftRight] at q2
  rw [BitVec.msb_eq_getLsbD_last] at h
  simp at h
  simp_all
theorem usE_7 (x : Int32) (h : x.toBitVec.msb = false) : ((x.toUInt32 >>> ((7 : Int32).toUInt32 &&& Int32.toUInt32 31)).toInt32) = (x >>> ((7 : Int32) &&& 31)) := by
  apply Int32.toBitVec_inj.mp
  have e1 : ((7 : Int32).toUInt32 &&& Int32.toUInt32 31) = (7 : UInt32) := by decide
  have e2 : ((7 : Int32) &&& 31) = 7 := by decide
  rw [e1, e2, Int32.toBitVec_shiftRight]
  simp [UInt32.toBitVec_shiftRight, BitVec.sshiftRight_eq_of_msb_false h]
theorem usN_7 (x : Int32) (h : x.toBitVec.msb = true) : ((x.toUInt32 >>> ((7 : Int32).toUInt32 &&& Int32.toUInt32 31)).toInt32) ≠ 0 := by
  intro q
  have e1 : ((7 : Int32).toUInt32 &&& Int32.toUInt32 31) = (7 : UInt32) := by decide
  rw [e1] at q
  have q2 := congrArg (fun z : Int32 => z.toBitVec.getLsbD (31 - 7)) q
  simp [UInt32.toBitVec_shiftRight] at q2
  rw [BitVec.msb_eq_getLsbD_last] at h
  simp at h
  simp_all
theorem usE_8 (x : Int32) (h : x.toBitVec.msb = false) : ((x.toUInt32 >>> ((8 : Int32).toUInt32 &&& Int32.toUInt32 31)).toInt32) = (x >>> ((8 : Int32) &&& 31)) := by
  apply Int32.toBitVec_inj.mp
  have e1 : ((8 : Int32).toUInt32 &&& Int32.toUInt32 31) = (8 : UInt32) := by decide
  have e2 : ((8 : Int32) &&& 31) = 8 := by decide
  rw [e1, e2, Int32.toBitVec_shiftRight]
  simp [UInt32.toBitVec_shiftRight, BitVec.sshiftRight_eq_of_msb_false h]
theorem usN_8 (x : Int32) (h : x.toBitVec.msb = true) : ((x.toUInt32 >>> ((8 : Int32).toUInt32 &&& Int32.toUInt32 31)).toInt32) ≠ 0 := by
  intro q
  have e1 : ((8 : Int32).toUInt32 &&& Int32.toUInt32 31) = (8 : UInt32) := by decide
  rw [e1] at q
  have q2 := congrArg (fun z : Int32 => z.toBitVec.getLsbD (31 - 8)) q
  simp [UInt32.toBitVec_shiftRight] at q2
  rw [BitVec.msb_eq_getLsbD_last] at h
  simp at h
  simp_all
theorem usE_9 (x : Int32) (h : x.toBitVec.msb = false) : ((x.toUInt32 >>> ((9 : Int32).toUInt32 &&& Int32.toUInt32 31)).toInt32) = (x >>> ((9 : Int32) &&& 31)) := by
  apply Int32.toBitVec_inj.mp
  have e1 : ((9 : Int32).toUInt32 &&& Int32.toUInt32 31) = (9 : UInt32) := by decide
  have e2 : ((9 : Int32) &&& 31) = 9 := by decide
  rw [e1, e2, Int32.toBitVec_shiftRight]
  simp [UInt32.toBitVec_shiftRight, BitVec.sshiftRight_eq_of_msb_false h]
theorem usN_9 (x : Int32) (h : x.toBitVec.msb = true) : ((x.toUInt32 >>> ((9 : Int32).toUInt32 &&& Int32.toUInt32 31)).toInt32) ≠ 0 := by
  intro q
  have e1 : ((9 : Int32).toUInt32 &&& Int32.toUInt32 31) = (9 : UInt32) := by decide
  rw [e1] at q
  have q2 := congrArg (fun z : Int32 => z.toBitVec.getLsbD (31 - 9)) q
  simp [UInt32.toBitVec_shiftRight] at q2
  rw [BitVec.msb_eq_getLsbD_last] at h
  simp at h
  simp_all
theorem usE_10 (x : Int32) (h : x.toBitVec.msb = false) : ((x.toUInt32 >>> ((10 : Int32).toUInt32 &&& Int32.toUInt32 31)).toInt32) = (x >>> ((10 : Int32) &&& 31)) := by
  apply Int32.toBitVec_inj.mp
  have e1 : ((10 : Int32).toUInt32 &&& Int32.toUInt32 31) = (10 : UInt32) := by decide
  have e2 : ((10 : Int32) &&& 31) = 10 := by decide
  rw [e1, e2, Int32.toBitVec_shiftRight]
  simp [UInt32.toBitVec_shiftRight, BitVec.sshiftRight_eq_of_msb_false h]
theorem usN_10 (x : Int32) (h : x.toBitVec.msb = true) : ((x.toUInt32 >>> ((10 : Int32).toUInt32 &&& Int32.toUInt32 31)).toInt32) ≠ 0 := by
  intro q
  have e1 : ((10 : Int32).toUInt32 &&& Int32.toUInt32 31) = (10 : UInt32) := by decide
  rw [e1] at q
  have q2 := congrArg (fun z : Int32 => z.toBitVec.getLsbD (31 - 10)) q
  simp [UInt32.toBitVec_shiftRight] at q2
  rw [BitVec.msb_eq_getLsbD_last] at h
  simp at h
  simp_all
theorem usE_11 (x : Int32) (h : x.toBitVec.msb = false) : ((x.toUInt32 >>> ((11 : Int32).toUInt32 &&& Int32.toUInt32 31)).toInt32) = (x >>> ((11 : Int32) &&& 31)) := by
  apply Int32.toBitVec_inj.mp
  have e1 : ((11 : Int32).toUInt32 &&& Int32.toUInt32 31) = (11 : UInt32) := by decide
  have e2 : ((11 : Int32) &&& 31) = 11 := by decide
  rw [e1, e2, Int32.toBitVec_shiftRight]
  simp [UInt32.toBitVec_shiftRight, BitVec.sshiftRight_eq_of_msb_false h]
theorem usN_11 (x : Int32) (h : x.toBitVec.msb = true) : ((x.toUInt32 >>> ((11 : Int32).toUInt32 &&& Int32.toUInt32 31)).toInt32) ≠ 0 := by
  intro q
  have e1 : ((11 : Int32).toUInt32 &&& Int32.toUInt32 31) = (11 : UInt32) := by decide
  rw [e1] at q
  have q2 := congrArg (fun z : Int32 => z.toBitVec.getLsbD (31 - 11)) q
  simp [UInt32.toBitVec_shiftRight] at q2
  rw [BitVec.msb_eq_getLsbD_last] at h
  simp at h
  simp_all
theorem usE_12 (x : Int32) (h : x.toBitVec.msb = false) : ((x.toUInt32 >>> ((12 : Int32).toUInt32 &&& Int32.toUInt32 31)).toInt32) = (x >>> ((12 : Int32) &&& 31)) := by
  apply Int32.toBitVec_inj.mp
  have e1 : ((12 : Int32).toUInt32 &&& Int32.toUInt32 31) = (12 : UInt32) := by decide
  have e2 : ((12 : Int32) &&& 31) = 12 := by decide
  rw [e1, e2, Int32.toBitVec_shiftRight]
  simp [UInt32.toBitVec_shiftRight, BitVec.sshiftRight_eq_of_msb_false h]
theorem usN_12 (x : Int32) (h : x.toBitVec.msb = true) : ((x.toUInt32 >>> ((12 : Int32).toUInt32 &&& Int32.toUInt32 31)).toInt32) ≠ 0 := by
  intro q
  have e1 : ((12 : Int32).toUInt32 &&& Int32.toUInt32 31) = (12 : UInt32) := by decide
  rw [e1] at q
  have q2 := congrArg (fun z : Int32 => z.toBitVec.getLsbD (31 - 12)) q
  simp [UInt32.toBitVec_shiftRight] at q2
  rw [BitVec.msb_eq_getLsbD_last] at h
  simp at h
  simp_all
theorem usE_13 (x : Int32) (h : x.toBitVec.msb = false) : ((x.toUInt32 >>> ((13 : Int32).toUInt32 &&& Int32.toUInt32 31)).toInt32) = (x >>> ((13 : Int32) &&& 31)) := by
  apply Int32.toBitVec_inj.mp
  have e1 : ((13 : Int32).toUInt32 &&& Int32.toUInt32 31) = (13 : UInt32) := by decide
  have e2 : ((13 : Int32) &&& 31) = 13 := by decide
  rw [e1, e2, Int32.toBitVec_shiftRight]
  simp [UInt32.toBitVec_shiftRight, BitVec.sshiftRight_eq_of_msb_false h]
theorem usN_13 (x : Int32) (h : x.toBitVec.msb = true) : ((x.toUInt32 >>> ((13 : Int32).toUInt32 &&& Int32.toUInt32 31)).toInt32) ≠ 0 := by
  intro q
  have e1 : ((13 : Int32).toUInt32 &&& Int32.toUInt32 31) = (13 : UInt32) := by decide
  rw [e1] at q
  have q2 := congrArg (fun z : Int32 => z.toBitVec.getLsbD (31 - 13)) q
  simp [UInt32.toBitVec_shiftRight] at q2
  rw [BitVec.msb_eq_getLsbD_last] at h
  simp at h
  simp_all
theorem usE_14 (x : Int32) (h : x.toBitVec.msb = false) : ((x.toUInt32 >>> ((14 : Int32).toUInt32 &&& Int32.toUInt32 31)).toInt32) = (x >>> ((14 : Int32) &&& 31)) := by
  apply Int32.toBitVec_inj.mp
  have e1 : ((14 : Int32).toUInt32 &&& Int32.toUInt32 31) = (14 : UInt32) := by decide
  have e2 : ((14 : Int32) &&& 31) = 14 := by decide
  rw [e1, e2, Int32.toBitVec_shiftRight]
  simp [UInt32.toBitVec_shiftRight, BitVec.sshiftRight_eq_of_msb_false h]
theorem usN_14 (x : Int32) (h : x.toBitVec.msb = true) : ((x.toUInt32 >>> ((14 : Int32).toUInt32 &&& Int32.toUInt32 31)).toInt32) ≠ 0 := by
  intro q
  have e1 : ((14 : Int32).toUInt32 &&& Int32.toUInt32 31) = (14 : UInt32) := by decide
  rw [e1] at q
  have q2 := congrArg (fun z : Int32 => z.toBitVec.getLsbD (31 - 14)) q
  simp [UInt32.toBitVec_shiftRight] at q2
  rw [BitVec.msb_eq_getLsbD_last] at h
  simp at h
  simp_all
theorem usE_15 (x : Int32) (h : x.toBitVec.msb = false) : ((x.toUInt32 >>> ((15 : Int32).toUInt32 &&& Int32.toUInt32 31)).toInt32) = (x >>> ((15 : Int32) &&& 31)) := by
  apply Int32.toBitVec_inj.mp
  have e1 : ((15 : Int32).toUInt32 &&& Int32.toUInt32 31) = (15 : UInt32) := by decide
  have e2 : ((15 : Int32) &&& 31) = 15 := by decide
  rw [e1, e2, Int32.toBitVec_shiftRight]
  simp [UInt32.toBitVec_shiftRight, BitVec.sshiftRight_eq_of_msb_false h]
theorem usN_15 (x : Int32) (h : x.toBitVec.msb = true) : ((x.toUInt32 >>> ((15 : Int32).toUInt32 &&& Int32.toUInt32 31)).toInt32) ≠ 0 := by
  intro q
  have e1 : ((15 : Int32).toUInt32 &&& Int32.toUInt32 31) = (15 : UInt32) := by decide
  rw [e1] at q
  have q2 := congrArg (fun z : Int32 => z.toBitVec.getLsbD (31 - 15)) q
  simp [UInt32.toBitVec_shiftRight] at q2
  rw [BitVec.msb_eq_getLsbD_last] at h
  simp at h
  simp_all
theorem usE_16 (x : Int32) (h : x.toBitVec.msb = false) : ((x.toUInt32 >>> ((16 : Int32).toUInt32 &&& Int32.toUInt32 31)).toInt32) = (x >>> ((16 : Int32) &&& 31)) := by
  apply Int32.toBitVec_inj.mp
  have e1 : ((16 : Int32).toUInt32 &&& Int32.toUInt32 31) = (16 : UInt32) := by decide
  have e2 : ((16 : Int32) &&& 31) = 16 := by decide
  rw [e1, e2, Int32.toBitVec_shiftRight]
  simp [UInt32.toBitVec_shiftRight, BitVec.sshiftRight_eq_of_msb_false h]
theorem usN_16 (x : Int32) (h : x.toBitVec.msb = true) : ((x.toUInt32 >>> ((16 : Int32).toUInt32 &&& Int32.toUInt32 31)).toInt32) ≠ 0 := by
  intro q
  have e1 : ((16 : Int32).toUInt32 &&& Int32.toUInt32 31) = (16 : UInt32) := by decide
  rw [e1] at q
  have q2 := congrArg (fun z : Int32 => z.toBitVec.getLsbD (31 - 16)) q
  simp [UInt32.toBitVec_shiftRight] at q2
  rw [BitVec.msb_eq_getLsbD_last] at h
  simp at h
  simp_all
theorem usE_17 (x : Int32) (h : x.toBitVec.msb = false) : ((x.toUInt32 >>> ((17 : Int32).toUInt32 &&& Int32.toUInt32 31)).toInt32) = (x >>> ((17 : Int32) &&& 31)) := by
  apply Int32.toBitVec_inj.mp
  have e1 : ((17 : Int32).toUInt32 &&& Int32.toUInt32 31) = (17 : UInt32) := by decide
  have e2 : ((17 : Int32) &&& 31) = 17 := by decide
  rw [e1, e2, Int32.toBitVec_shiftRight]
  simp [UInt32.toBitVec_shiftRight, BitVec.sshiftRight_eq_of_msb_false h]
theorem usN_17 (x : Int32) (h : x.toBitVec.msb = true) : ((x.toUInt32 >>> ((17 : Int32).toUInt32 &&& Int32.toUInt32 31)).toInt32) ≠ 0 := by
  intro q
  have e1 : ((17 : Int32).toUInt32 &&& Int32.toUInt32 31) = (17 : UInt32) := by decide
  rw [e1] at q
  have q2 := congrArg (fun z : Int32 => z.toBitVec.getLsbD (31 - 17)) q
  simp [UInt32.toBitVec_shiftRight] at q2
  rw [BitVec.msb_eq_getLsbD_last] at h
  simp at h
  simp_all
theorem usE_18 (x : Int32) (h : x.toBitVec.msb = false) : ((x.toUInt32 >>> ((18 : Int32).toUInt32 &&& Int32.toUInt32 31)).toInt32) = (x >>> ((18 : Int32) &&& 31)) := by
  apply Int32.toBitVec_inj.mp
  have e1 : ((18 : Int32).toUInt32 &&& Int32.toUInt32 31) = (18 : UInt32) := by decide
  have e2 : ((18 : Int32) &&& 31) = 18 := by decide
  rw [e1, e2, Int32.toBitVec_shiftRight]
  simp [UInt32.toBitVec_shiftRight, BitVec.sshiftRight_eq_of_msb_false h]
theorem usN_18 (x : Int32) (h : x.toBitVec.msb = true) : ((x.toUInt32 >>> ((18 : Int32).toUInt32 &&& Int32.toUInt32 31)).toInt32) ≠ 0 := by
  intro q
  have e1 : ((18 : Int32).toUInt32 &&& Int32.toUInt32 31) = (18 : UInt32) := by decide
  rw [e1] at q
  have q2 := congrArg (fun z : Int32 => z.toBitVec.getLsbD (31 - 18)) q
  simp [UInt32.toBitVec_shiftRight] at q2
  rw [BitVec.msb_eq_getLsbD_last] at h
  simp at h
  simp_all
theorem usE_19 (x : Int32) (h : x.toBitVec.msb = false) : ((x.toUInt32 >>> ((19 : Int32).toUInt32 &&& Int32.toUInt32 31)).toInt32) = (x >>> ((19 : Int32) &&& 31)) := by
  apply Int32.toBitVec_inj.mp
  have e1 : ((19 : Int32).toUInt32 &&& Int32.toUInt32 31) = (19 : UInt32) := by decide
  have e2 : ((19 : Int32) &&& 31) = 19 := by decide
  rw [e1, e2, Int32.toBitVec_shiftRight]
  simp [UInt32.toBitVec_shiftRight, BitVec.sshiftRight_eq_of_msb_false h]
theorem usN_19 (x : Int32) (h : x.toBitVec.msb = true) : ((x.toUInt32 >>> ((19 : Int32).toUInt32 &&& Int32.toUInt32 31)).toInt32) ≠ 0 := by
  intro q
  have e1 : ((19 : Int32).toUInt32 &&& Int32.toUInt32 31) = (19 : UInt32) := by decide
  rw [e1] at q
  have q2 := congrArg (fun z : Int32 => z.toBitVec.getLsbD (31 - 19)) q
  simp [UInt32.toBitVec_shiftRight] at q2
  rw [BitVec.msb_eq_getLsbD_last] at h
  simp at h
  simp_all
theorem usE_20 (x : Int32) (h : x.toBitVec.msb = false) : ((x.toUInt32 >>> ((20 : Int32).toUInt32 &&& Int32.toUInt32 31)).toInt32) = (x >>> ((20 : Int32) &&& 31)) := by
  apply Int32.toBitVec_inj.mp
  have e1 : ((20 : Int32).toUInt32 &&& Int32.toUInt32 31) = (20 : UInt32) := by decide
  have e2 : ((20 : Int32) &&& 31) = 20 := by decide
  rw [e1, e2, Int32.toBitVec_shiftRight]
  simp [UInt32.toBitVec_shiftRight, BitVec.sshiftRight_eq_of_msb_false h]
theorem usN_20 (x : Int32) (h : x.toBitVec.msb = true) : ((x.toUInt32 >>> ((20 : Int32).toUInt32 &&& Int32.toUInt32 31)).toInt32) ≠ 0 := by
  intro q
  have e1 : ((20 : Int32).toUInt32 &&& Int32.toUInt32 31) = (20 : UInt32) := by decide
  rw [e1] at q
  have q2 := congrArg (fun z : Int32 => z.toBitVec.getLsbD (31 - 20)) q
  simp [UInt32.toBitVec_shiftRight] at q2
  rw [BitVec.msb_eq_getLsbD_last] at h
  simp at h
  simp_all
theorem usE_21 (x : Int32) (h : x.toBitVec.msb = false) : ((x.toUInt32 >>> ((21 : Int32).toUInt32 &&& Int32.toUInt32 31)).toInt32) = (x >>> ((21 : Int32) &&& 31)) := by
  apply Int32.toBitVec_inj.mp
  have e1 : ((21 : Int32).toUInt32 &&& Int32.toUInt32 31) = (21 : UInt32) := by decide
  have e2 : ((21 : Int32) &&& 31) = 21 := by decide
  rw [e1, e2, Int32.toBitVec_shiftRight]
  simp [UInt32.toBitVec_shiftRight, BitVec.sshiftRight_eq_of_msb_false h]
theorem usN_21 (x : Int32) (h : x.toBitVec.msb = true) : ((x.toUInt32 >>> ((21 : Int32).toUInt32 &&& Int32.toUInt32 31)).toInt32) ≠ 0 := by
  intro q
  have e1 : ((21 : Int32).toUInt32 &&& Int32.toUInt32 31) = (21 : UInt32) := by decide
  rw [e1] at q
  have q2 := congrArg (fun z : Int32 => z.toBitVec.getLsbD (31 - 21)) q
  simp [UInt32.toBitVec_shiftRight] at q2
  rw [BitVec.msb_eq_getLsbD_last] at h
  simp at h
  simp_all
theorem usE_22 (x : Int32) (h : x.toBitVec.msb = false) : ((x.toUInt32 >>> ((22 : Int32).toUInt32 &&& Int32.toUInt32 31)).toInt32) = (x >>> ((22 : Int32) &&& 31)) := by
  apply Int32.toBitVec_inj.mp
  have e1 : ((22 : Int32).toUInt32 &&& Int32.toUInt32 31) = (22 : UInt32) := by decide
  have e2 : ((22 : Int32) &&& 31) = 22 := by decide
  rw [e1, e2, Int32.toBitVec_shiftRight]
  simp [UInt32.toBitVec_shiftRight, BitVec.sshiftRight_eq_of_msb_false h]
theorem usN_22 (x : Int32) (h : x.toBitVec.msb = true) : ((x.toUInt32 >>> ((22 : Int32).toUInt32 &&& Int32.toUInt32 31)).toInt32) ≠ 0 := by
  intro q
  have e1 : ((22 : Int32).toUInt32 &&& Int32.toUInt32 31) = (22 : UInt32) := by decide
  rw [e1] at q
  have q2 := congrArg (fun z : Int32 => z.toBitVec.getLsbD (31 - 22)) q
  simp [UInt32.toBitVec_shiftRight] at q2
  rw [BitVec.msb_eq_getLsbD_last] at h
  simp at h
  simp_all
theorem usE_23 (x : Int32) (h : x.toBitVec.msb = false) : ((x.toUInt32 >>> ((23 : Int32).toUInt32 &&& Int32.toUInt32 31)).toInt32) = (x >>> ((23 : Int32) &&& 31)) := by
  apply Int32.toBitVec_inj.mp
  have e1 : ((23 : Int32).toUInt32 &&& Int32.toUInt32 31) = (23 : UInt32) := by decide
  have e2 : ((23 : Int32) &&& 31) = 23 := by decide
  rw [e1, e2, Int32.toBitVec_shiftRight]
  simp [UInt32.toBitVec_shiftRight, BitVec.sshiftRight_eq_of_msb_false h]
theorem usN_23 (x : Int32) (h : x.toBitVec.msb = true) : ((x.toUInt32 >>> ((23 : Int32).toUInt32 &&& Int32.toUInt32 31)).toInt32) ≠ 0 := by
  intro q
  have e1 : ((23 : Int32).toUInt32 &&& Int32.toUInt32 31) = (23 : UInt32) := by decide
  rw [e1] at q
  have q2 := congrArg (fun z : Int32 => z.toBitVec.getLsbD (31 - 23)) q
  simp [UInt32.toBitVec_shiftRight] at q2
  rw [BitVec.msb_eq_getLsbD_last] at h
  simp at h
  simp_all
theorem usE_24 (x : Int32) (h : x.toBitVec.msb = false) : ((x.toUInt32 >>> ((24 : Int32).toUInt32 &&& Int32.toUInt32 31)).toInt32) = (x >>> ((24 : Int32) &&& 31)) := by
  apply Int32.toBitVec_inj.mp
  have e1 : ((24 : Int32).toUInt32 &&& Int32.toUInt32 31) = (24 : UInt32) := by decide
  have e2 : ((24 : Int32) &&& 31) = 24 := by decide
  rw [e1, e2, Int32.toBitVec_shiftRight]
  simp [UInt32.toBitVec_shiftRight, BitVec.sshiftRight_eq_of_msb_false h]
theorem usN_24 (x : Int32) (h : x.toBitVec.msb = true) : ((x.toUInt32 >>> ((24 : Int32).toUInt32 &&& Int32.toUInt32 31)).toInt32) ≠ 0 := by
  intro q
  have e1 : ((24 : Int32).toUInt32 &&& Int32.toUInt32 31) = (24 : UInt32) := by decide
  rw [e1] at q
  have q2 := congrArg (fun z : Int32 => z.toBitVec.getLsbD (31 - 24)) q
  simp [UInt32.toBitVec_shiftRight] at q2
  rw [BitVec.msb_eq_getLsbD_last] at h
  simp at h
  simp_all
theorem usE_25 (x : Int32) (h : x.toBitVec.msb = false) : ((x.toUInt32 >>> ((25 : Int32).toUInt32 &&& Int32.toUInt32 31)).toInt32) = (x >>> ((25 : Int32) &&& 31)) := by
  apply Int32.toBitVec_inj.mp
  have e1 : ((25 : Int32).toUInt32 &&& Int32.toUInt32 31) = (25 : UInt32) := by decide
  have e2 : ((25 : Int32) &&& 31) = 25 := by decide
  rw [e1, e2, Int32.toBitVec_shiftRight]
  simp [UInt32.toBitVec_shiftRight, BitVec.sshiftRight_eq_of_msb_false h]
theorem usN_25 (x : Int32) (h : x.toBitVec.msb = true) : ((x.toUInt32 >>> ((25 : Int32).toUInt32 &&& Int32.toUInt32 31)).toInt32) ≠ 0 := by
  intro q
  have e1 : ((25 : Int32).toUInt32 &&& Int32.toUInt32 31) = (25 : UInt32) := by decide
  rw [e1] at q
  have q2 := congrArg (fun z : Int32 => z.toBitVec.getLsbD (31 - 25)) q
  simp [UInt32.toBitVec_shiftRight] at q2
  rw [BitVec.msb_eq_getLsbD_last] at h
  simp at h
  simp_all
theorem usE_26 (x : Int32) (h : x.toBitVec.msb = false) : ((x.toUInt32 >>> ((26 : Int32).toUInt32 &&& Int32.toUInt32 31)).toInt32) = (x >>> ((26 : Int32) &&& 31)) := by
  apply Int32.toBitVec_inj.mp
  have e1 : ((26 : Int32).toUInt32 &&& Int32.toUInt32 31) = (26 : UInt32) := by decide
  have e2 : ((26 : Int32) &&& 31) = 26 := by decide
  rw [e1, e2, Int32.toBitVec_shiftRight]
  simp [UInt32.toBitVec_shiftRight, BitVec.sshiftRight_eq_of_msb_false h]
theorem usN_26 (x : Int32) (h : x.toBitVec.msb = true) : ((x.toUInt32 >>> ((26 : Int32).toUInt32 &&& Int32.toUInt32 31)).toInt32) ≠ 0 := by
  intro q
  have e1 : ((26 : Int32).toUInt32 &&& Int32.toUInt32 31) = (26 : UInt32) := by decide
  rw [e1] at q
  have q2 := congrArg (fun z : Int32 => z.toBitVec.getLsbD (31 - 26)) q
  simp [UInt32.toBitVec_shiftRight] at q2
  rw [BitVec.msb_eq_getLsbD_last] at h
  simp at h
  simp_all
theorem usE_27 (x : Int32) (h : x.toBitVec.msb = false) : ((x.toUInt32 >>> ((27 : Int32).toUInt32 &&& Int32.toUInt32 31)).toInt32) = (x >>> ((27 : Int32) &&& 31)) := by
  apply Int32.toBitVec_inj.mp
  have e1 : ((27 : Int32).toUInt32 &&& Int32.toUInt32 31) = (27 : UInt32) := by decide
  have e2 : ((27 : Int32) &&& 31) = 27 := by decide
  rw [e1, e2, Int32.toBitVec_shiftRight]
  simp [UInt32.toBitVec_shiftRight, BitVec.sshiftRight_eq_of_msb_false h]
theorem usN_27 (x : Int32) (h : x.toBitVec.msb = true) : ((x.toUInt32 >>> ((27 : Int32).toUInt32 &&& Int32.toUInt32 31)).toInt32) ≠ 0 := by
  intro q
  have e1 : ((27 : Int32).toUInt32 &&& Int32.toUInt32 31) = (27 : UInt32) := by decide
  rw [e1] at q
  have q2 := congrArg (fun z : Int32 => z.toBitVec.getLsbD (31 - 27)) q
  simp [UInt32.toBitVec_shiftRight] at q2
  rw [BitVec.msb_eq_getLsbD_last] at h
  simp at h
  simp_all
theorem usE_28 (x : Int32) (h : x.toBitVec.msb = false) : ((x.toUInt32 >>> ((28 : Int32).toUInt32 &&& Int32.toUInt32 31)).toInt32) = (x >>> ((28 : Int32) &&& 31)) := by
  apply Int32.toBitVec_inj.mp
  have e1 : ((28 : Int32).toUInt32 &&& Int32.toUInt32 31) = (28 : UInt32) := by decide
  have e2 : ((28 : Int32) &&& 31) = 28 := by decide
  rw [e1, e2, Int32.toBitVec_shiftRight]
  simp [UInt32.toBitVec_shiftRight, BitVec.sshiftRight_eq_of_msb_false h]
theorem usN_28 (x : Int32) (h : x.toBitVec.msb = true) : ((x.toUInt32 >>> ((28 : Int32).toUInt32 &&& Int32.toUInt32 31)).toInt32) ≠ 0 := by
  intro q
  have e1 : ((28 : Int32).toUInt32 &&& Int32.toUInt32 31) = (28 : UInt32) := by decide
  rw [e1] at q
  have q2 := congrArg (fun z : Int32 => z.toBitVec.getLsbD (31 - 28)) q
  simp [UInt32.toBitVec_shiftRight] at q2
  rw [BitVec.msb_eq_getLsbD_last] at h
  simp at h
  simp_all
theorem usE_29 (x : Int32) (h : x.toBitVec.msb = false) : ((x.toUInt32 >>> ((29 : Int32).toUInt32 &&& Int32.toUInt32 31)).toInt32) = (x >>> ((29 : Int32) &&& 31)) := by
  apply Int32.toBitVec_inj.mp
  have e1 : ((29 : Int32).toUInt32 &&& Int32.toUInt32 31) = (29 : UInt32) := by decide
  have e2 : ((29 : Int32) &&& 31) = 29 := by decide
  rw [e1, e2, Int32.toBitVec_shiftRight]
  simp [UInt32.toBitVec_shiftRight, BitVec.sshiftRight_eq_of_msb_false h]
theorem usN_29 (x : Int32) (h : x.toBitVec.msb = true) : ((x.toUInt32 >>> ((29 : Int32).toUInt32 &&& Int32.toUInt32 31)).toInt32) ≠ 0 := by
  intro q
  have e1 : ((29 : Int32).toUInt32 &&& Int32.toUInt32 31) = (29 : UInt32) := by decide
  rw [e1] at q
  have q2 := congrArg (fun z : Int32 => z.toBitVec.getLsbD (31 - 29)) q
  simp [UInt32.toBitVec_shiftRight] at q2
  rw [BitVec.msb_eq_getLsbD_last] at h
  simp at h
  simp_all
theorem usE_30 (x : Int32) (h : x.toBitVec.msb = false) : ((x.toUInt32 >>> ((30 : Int32).toUInt32 &&& Int32.toUInt32 31)).toInt32) = (x >>> ((30 : Int32) &&& 31)) := by
  apply Int32.toBitVec_inj.mp
  have e1 : ((30 : Int32).toUInt32 &&& Int32.toUInt32 31) = (30 : UInt32) := by decide
  have e2 : ((30 : Int32) &&& 31) = 30 := by decide
  rw [e1, e2, Int32.toBitVec_shiftRight]
  simp [UInt32.toBitVec_shiftRight, BitVec.sshiftRight_eq_of_msb_false h]
theorem usN_30 (x : Int32) (h : x.toBitVec.msb = true) : ((x.toUInt32 >>> ((30 : Int32).toUInt32 &&& Int32.toUInt32 31)).toInt32) ≠ 0 := by
  intro q
  have e1 : ((30 : Int32).toUInt32 &&& Int32.toUInt32 31) = (30 : UInt32) := by decide
  rw [e1] at q
  have q2 := congrArg (fun z : Int32 => z.toBitVec.getLsbD (31 - 30)) q
  simp [UInt32.toBitVec_shiftRight] at q2
  rw [BitVec.msb_eq_getLsbD_last] at h
  simp at h
  simp_all
theorem i_msb (x : Int32) : x.toBitVec.msb = decide (x.toInt < 0) := by
  show _ = decide (x.toBitVec.toInt < 0)
  exact BitVec.msb_eq_toInt
theorem us_E {y s : Int32} (h0 : 0 ≤ s.toInt) (h1 : s.toInt ≤ 30) (hy : 0 ≤ y.toInt) : (y.toUInt32 >>> (s.toUInt32 &&& Int32.toUInt32 31)).toInt32 = y >>> (s &&& 31) := by
  have hm : y.toBitVec.msb = false := by rw [i_msb]; exact decide_eq_false (by omega)
  rcases (show s.toInt = 0 ∨ s.toInt = 1 ∨ s.toInt = 2 ∨ s.toInt = 3 ∨ s.toInt = 4 ∨ s.toInt = 5 ∨ s.toInt = 6 ∨ s.toInt = 7 ∨ s.toInt = 8 ∨ s.toInt = 9 ∨ s.toInt = 10 ∨ s.toInt = 11 ∨ s.toInt = 12 ∨ s.toInt = 13 ∨ s.toInt = 14 ∨ s.toInt = 15 ∨ s.toInt = 16 ∨ s.toInt = 17 ∨ s.toInt = 18 ∨ s.toInt = 19 ∨ s.toInt = 20 ∨ s.toInt = 21 ∨ s.toInt = 22 ∨ s.toInt = 23 ∨ s.toInt = 24 ∨ s.toInt = 25 ∨ s.toInt = 26 ∨ s.toInt = 27 ∨ s.toInt = 28 ∨ s.toInt = 29 ∨ s.toInt = 30 by omega) with e | e | e | e | e | e | e | e | e | e | e | e | e | e | e | e | e | e | e | e | e | e | e | e | e | e | e | e | e | e | e
  · rw [show s = 0 from Int32.toInt_inj.mp (by rw [e]; decide)]; exact usE_0 y hm
  · rw [show s = 1 from Int32.toInt_inj.mp (by rw [e]; decide)]; exact usE_1 y hm
  · rw [show s = 2 from Int32.toInt_inj.mp (by rw [e]; decide)]; exact usE_2 y hm
  · rw [show s = 3 from Int32.toInt_inj.mp (by rw [e]; decide)]; exact usE_3 y hm
  · rw [show s = 4 from Int32.toInt_inj.mp (by rw [e]; decide)]; exact usE_4 y hm
  · rw [show s = 5 from Int32.toInt_inj.mp (by rw [e]; decide)]; exact usE_5 y hm
  · rw [show s = 6 from Int32.toInt_inj.mp (by rw [e]; decide)]; exact usE_6 y hm
  · rw [show s = 7 from Int32.toInt_inj.mp (by rw [e]; decide)]; exact usE_7 y hm
  · rw [show s = 8 from Int32.toInt_inj.mp (by rw [e]; decide)]; exact usE_8 y hm
  · rw [show s = 9 from Int32.toInt_inj.mp (by rw [e]; decide)]; exact usE_9 y hm
  · rw [show s = 10 from Int32.toInt_inj.mp (by rw [e]; decide)]; exact usE_10 y hm
  · rw [show s = 11 from Int32.toInt_inj.mp (by rw [e]; decide)]; exact usE_11 y hm
  · rw [show s = 12 from Int32.toInt_inj.mp (by rw [e]; decide)]; exact usE_12 y hm
  · rw [show s = 13 from Int32.toInt_inj.mp (by rw [e]; decide)]; exact usE_13 y hm
  · rw [show s = 14 from Int32.toInt_inj.mp (by rw [e]; decide)]; exact usE_14 y hm
  · rw [show s = 15 from Int32.toInt_inj.mp (by rw [e]; decide)]; exact usE_15 y hm
  · rw [show s = 16 from Int32.toInt_inj.mp (by rw [e]; decide)]; exact usE_16 y hm
  · rw [show s = 17 from Int32.toInt_inj.mp (by rw [e]; decide)]; exact usE_17 y hm
  · rw [show s = 18 from Int32.toInt_inj.mp (by rw [e]; decide)]; exact usE_18 y hm
  · rw [show s = 19 from Int32.toInt_inj.mp (by rw [e]; decide)]; exact usE_19 y hm
  · rw [show s = 20 from Int32.toInt_inj.mp (by rw [e]; decide)]; exact usE_20 y hm
  · rw [show s = 21 from Int32.toInt_inj.mp (by rw [e]; decide)]; exact usE_21 y hm
  · rw [show s = 22 from Int32.toInt_inj.mp (by rw [e]; decide)]; exact usE_22 y hm
  · rw [show s = 23 from Int32.toInt_inj.mp (by rw [e]; decide)]; exact usE_23 y hm
  · rw [show s = 24 from Int32.toInt_inj.mp (by rw [e]; decide)]; exact usE_24 y hm
  · rw [show s = 25 from Int32.toInt_inj.mp (by rw [e]; decide)]; exact usE_25 y hm
  · rw [show s = 26 from Int32.toInt_inj.mp (by rw [e]; decide)]; exact usE_26 y hm
  · rw [show s = 27 from Int32.toInt_inj.mp (by rw [e]; decide)]; exact usE_27 y hm
  · rw [show s = 28 from Int32.toInt_inj.mp (by rw [e]; decide)]; exact usE_28 y hm
  · rw [show s = 29 from Int32.toInt_inj.mp (by rw [e]; decide)]; exact usE_29 y hm
  · rw [show s = 30 from Int32.toInt_inj.mp (by rw [e]; decide)]; exact usE_30 y hm
theorem us_N {y s : Int32} (h0 : 0 ≤ s.toInt) (h1 : s.toInt ≤ 30) (hy : y.toInt < 0) : (y.toUInt32 >>> (s.toUInt32 &&& Int32.toUInt32 31)).toInt32.toInt ≠ 0 := by
  have hm : y.toBitVec.msb = true := by rw [i_msb]; exact decide_eq_true hy
  intro q
  have q := (show (y.toUInt32 >>> (s.toUInt32 &&& Int32.toUInt32 31)).toInt32 = 0 from Int32.toInt_inj.mp (by rw [q]; decide))
  rcases (show s.toInt = 0 ∨ s.toInt = 1 ∨ s.toInt = 2 ∨ s.toInt = 3 ∨ s.toInt = 4 ∨ s.toInt = 5 ∨ s.toInt = 6 ∨ s.toInt = 7 ∨ s.toInt = 8 ∨ s.toInt = 9 ∨ s.toInt = 10 ∨ s.toInt = 11 ∨ s.toInt = 12 ∨ s.toInt = 13 ∨ s.toInt = 14 ∨ s.toInt = 15 ∨ s.toInt = 16 ∨ s.toInt = 17 ∨ s.toInt = 18 ∨ s.toInt = 19 ∨ s.toInt = 20 ∨ s.toInt = 21 ∨ s.toInt = 22 ∨ s.toInt = 23 ∨ s.toInt = 24 ∨ s.toInt = 25 ∨ s.toInt = 26 ∨ s.toInt = 27 ∨ s.toInt = 28 ∨ s.toInt = 29 ∨ s.toInt = 30 by omega) with e | e | e | e | e | e | e | e | e | e | e | e | e | e | e | e | e | e | e | e | e | e | e | e | e | e | e | e | e | e | e
  · rw [show s = 0 from Int32.toInt_inj.mp (by rw [e]; decide)] at q; exact usN_0 y hm q
  · rw [show s = 1 from Int32.toInt_inj.mp (by rw [e]; decide)] at q; exact usN_1 y hm q
  · rw [show s = 2 from Int32.toInt_inj.mp (by rw [e]; decide)] at q; exact usN_2 y hm q
  · rw [show s = 3 from Int32.toInt_inj.mp (by rw [e]; decide)] at q; exact usN_3 y hm q
  · rw [show s = 4 from Int32.toInt_inj.mp (by rw [e]; decide)] at q; exact usN_4 y hm q
  · rw [show s = 5 from Int32.toInt_inj.mp (by rw [e]; decide)] at q; exact usN_5 y hm q
  · rw [show s = 6 from Int32.toInt_inj.mp (by rw [e]; decide)] at q; exact usN_6 y hm q
  · rw [show s = 7 from Int32.toInt_inj.mp (by rw [e]; decide)] at q; exact usN_7 y hm q
  · rw [show s = 8 from Int32.toInt_inj.mp (by rw [e]; decide)] at q; exact usN_8 y hm q
  · rw [show s = 9 from Int32.toInt_inj.mp (by rw [e]; decide)] at q; exact usN_9 y hm q
  · rw [show s = 10 from Int32.toInt_inj.mp (by rw [e]; decide)] at q; exact usN_10 y hm q
  · rw [show s = 11 from Int32.toInt_inj.mp (by rw [e]; decide)] at q; exact usN_11 y hm q
  · rw [show s = 12 from Int32.toInt_inj.mp (by rw [e]; decide)] at q; exact usN_12 y hm q
  · rw [show s = 13 from Int32.toInt_inj.mp (by rw [e]; decide)] at q; exact usN_13 y hm q
  · rw [show s = 14 from Int32.toInt_inj.mp (by rw [e]; decide)] at q; exact usN_14 y hm q
  · rw [show s = 15 from Int32.toInt_inj.mp (by rw [e]; decide)] at q; exact usN_15 y hm q
  · rw [show s = 16 from Int32.toInt_inj.mp (by rw [e]; decide)] at q; exact usN_16 y hm q
  · rw [show s = 17 from Int32.toInt_inj.mp (by rw [e]; decide)] at q; exact usN_17 y hm q
  · rw [show s = 18 from Int32.toInt_inj.mp (by rw [e]; decide)] at q; exact usN_18 y hm q
  · rw [show s = 19 from Int32.toInt_inj.mp (by rw [e]; decide)] at q; exact usN_19 y hm q
  · rw [show s = 20 from Int32.toInt_inj.mp (by rw [e]; decide)] at q; exact usN_20 y hm q
  · rw [show s = 21 from Int32.toInt_inj.mp (by rw [e]; decide)] at q; exact usN_21 y hm q
  · rw [show s = 22 from Int32.toInt_inj.mp (by rw [e]; decide)] at q; exact usN_22 y hm q
  · rw [show s = 23 from Int32.toInt_inj.mp (by rw [e]; decide)] at q; exact usN_23 y hm q
  · rw [show s = 24 from Int32.toInt_inj.mp (by rw [e]; decide)] at q; exact usN_24 y hm q
  · rw [show s = 25 from Int32.toInt_inj.mp (by rw [e]; decide)] at q; exact usN_25 y hm q
  · rw [show s = 26 from Int32.toInt_inj.mp (by rw [e]; decide)] at q; exact usN_26 y hm q
  · rw [show s = 27 from Int32.toInt_inj.mp (by rw [e]; decide)] at q; exact usN_27 y hm q
  · rw [show s = 28 from Int32.toInt_inj.mp (by rw [e]; decide)] at q; exact usN_28 y hm q
  · rw [show s = 29 from Int32.toInt_inj.mp (by rw [e]; decide)] at q; exact usN_29 y hm q
  · rw [show s = 30 from Int32.toInt_inj.mp (by rw [e]; decide)] at q; exact usN_30 y hm q
theorem Bt_e {k : Int} {y : Int32} (k0 : 0 ≤ k) (k1 : k ≤ 30) : BtC k y ↔ BtM k y := by
  have hs : (Int32.ofInt k).toInt = k := Int32.toInt_ofInt_of_le (by omega) (by omega)
  constructor
  · intro h
    have h1 := h (Int32.ofInt k) hs (by omega)
    have hy : 0 ≤ y.toInt := by
      rcases (show 0 ≤ y.toInt ∨ y.toInt < 0 by omega) with q | q
      · exact q
      · exact absurd h1 (us_N (by omega) (by omega) q)
    exact ⟨hy, fun s e1 e2 => by rw [← us_E (by omega) (by omega) hy]; exact h s e1 (by omega)⟩
  · intro h s e1 e2
    rw [us_E (by omega) (by omega) h.1]; exact h.2 s e1 (by omega)
theorem D_e {La Lb : Int → Int} {y : Int32} {j : Int} (hy : 0 ≤ y.toInt) (e : La j = Lb j) (h : La j ≤ 30) : Dc La y j ↔ Dr Lb y j := by
  unfold Dc Dr
  rw [← e]
  constructor
  · rintro ⟨a1, a2, s, a3, a4⟩
    rw [us_E (by omega) (by omega) hy] at a4
    exact ⟨a1, by omega, s, a3, a4⟩
  · rintro ⟨a1, a2, s, a3, a4⟩
    refine ⟨a1, by omega, s, a3, ?_⟩
    rw [us_E (by omega) (by omega) hy]; exact a4
/-- how many cells bear the number c -/
def cl1 (L : Int → Int) (c : Int) : Nat → Int
  | 0 => 0
  | m + 1 => cl1 L c m + (if L (m : Int) = c then 1 else 0)
def clS (L : Int → Int) (m : Nat) : Nat → Int
  | 0 => 0
  | k + 1 => clS L m k + cl1 L (k : Int) m
theorem cl1_m {L : Int → Int} {c : Int} (m d : Nat) : cl1 L c m ≤ cl1 L c (m + d) := by
  induction d with
  | zero => exact Int.le_refl _
  | succ d ih =>
    show cl1 L c m ≤ cl1 L c (m + d) + (if L ((m + d : Nat) : Int) = c then 1 else 0)
    by_cases q : L ((m + d : Nat) : Int) = c
    · rw [if_pos q]; omega
    · rw [if_neg q]; omega
theorem cl1_2 {L : Int → Int} {c a b N : Int} (a0 : 0 ≤ a) (ab : a < b) (bN : b < N) (ha : L a = c) (hb : L b = c) : 2 ≤ cl1 L c N.toNat := by
  have h0 := cl1_m (L := L) (c := c) 0 a.toNat
  have h1 : cl1 L c (a.toNat + 1) = cl1 L c a.toNat + 1 := by
    show cl1 L c a.toNat + (if L ((a.toNat : Nat) : Int) = c then 1 else 0) = _
    rw [show ((a.toNat : Nat) : Int) = a by omega, if_pos ha]
  have h2 := cl1_m (L := L) (c := c) (a.toNat + 1) (b.toNat - (a.toNat + 1))
  rw [show a.toNat + 1 + (b.toNat - (a.toNat + 1)) = b.toNat by omega] at h2
  have h3 : cl1 L c (b.toNat + 1) = cl1 L c b.toNat + 1 := by
    show cl1 L c b.toNat + (if L ((b.toNat : Nat) : Int) = c then 1 else 0) = _
    rw [show ((b.toNat : Nat) : Int) = b by omega, if_pos hb]
  have h4 := cl1_m (L := L) (c := c) (b.toNat + 1) (N.toNat - (b.toNat + 1))
  rw [show b.toNat + 1 + (N.toNat - (b.toNat + 1)) = N.toNat by omega] at h4
  rw [show 0 + a.toNat = a.toNat by omega] at h0
  have h5 : cl1 L c 0 = 0 := rfl
  omega
theorem clS_s (L : Int → Int) (m k : Nat) : clS L (m + 1) k = clS L m k + (if 0 ≤ L (m : Int) ∧ L (m : Int) < (k : Int) then 1 else 0) := by
  induction k with
  | zero => rw [if_neg (by omega)]; rfl
  | succ k ih =>
    show clS L (m + 1) k + (cl1 L (k : Int) m + (if L (m : Int) = (k : Int) then 1 else 0)) = clS L m k + cl1 L (k : Int) m + _
    rw [ih]
    by_cases q : L (m : Int) = (k : Int)
    · rw [if_pos q, if_neg (by omega), if_pos (by omega)]; omega
    · rw [if_neg q]
      by_cases q2 : 0 ≤ L (m : Int) ∧ L (m : Int) < (k : Int)
      · rw [if_pos q2, if_pos (by omega)]; omega
      · rw [if_neg q2, if_neg (by omega)]; omega
theorem clS_0 (L : Int → Int) (k : Nat) : clS L 0 k = 0 := by
  induction k with
  | zero => rfl
  | succ k ih => show clS L 0 k + cl1 L (k : Int) 0 = 0; rw [ih]; rfl
theorem clS_b (L : Int → Int) (m k : Nat) : clS L m k ≤ (m : Int) := by
  induction m with
  | zero => rw [clS_0]; exact Int.le_refl _
  | succ m ih =>
    rw [clS_s]
    by_cases q : 0 ≤ L (m : Int) ∧ L (m : Int) < (k : Int)
    · rw [if_pos q]; omega
    · rw [if_neg q]; omega
theorem clS_2 {L : Int → Int} {m : Nat} (k : Nat) (h : ∀ c : Nat, c < k → 2 ≤ cl1 L (c : Int) m) : 2 * (k : Int) ≤ clS L m k := by
  induction k with
  | zero => exact Int.le_refl _
  | succ k ih =>
    have h1 := ih (fun c hc => h c (by omega))
    have h2 := h k (by omega)
    show 2 * ((k + 1 : Nat) : Int) ≤ clS L m k + cl1 L (k : Int) m
    omega
/-- at most 30 cycles, for one juggler -/
theorem DrL_30 {w : Int → Int} {n : Int} {La : Int → Int} {k : Int} (h : DrL w n La k) (hG : GdW w n) (hS : ∀ b : Int, 0 ≤ b → b < n → Srt w b) (hn : 0 < n ∧ n ≤ 24) : 0 ≤ k ∧ k ≤ 30 := by
  obtain ⟨so, h1, h2⟩ := h
  have hk := LabP_k h2 (by omega)
  refine ⟨hk.2, ?_⟩
  rcases (show n ≤ 15 ∨ 16 ≤ n by omega) with q | q
  · omega
  · obtain ⟨b0, b1, b2, b3, b4, fc, b5⟩ := h2
    have key := clS_2 (L := La) (m := (2 * n).toNat) k.toNat (fun c hc => by
      obtain ⟨f1, f2, f3, f4, f5⟩ := b5 (c : Int) (by omega) (by omega)
      have l1 := SrcF_l h1 hG hS f1
      have l2 : Th w (2 * n) (so (fc c)) := ⟨l1.1, l1.2.1, l1.2.2.1⟩
      have l3 : La (so (fc c)) = (c : Int) := by rw [b1 _ f1]; exact f3
      have l4 := f4 _ l2 l3
      have l5 : so (fc c) ≠ fc c := fun e => by
        have e1 := l1.2.2.2
        rw [e] at e1
        have f10 := f1.1
        have f11 := f1.2.1
        have f12 := f1.2.2
        have s1 := hS (fc c / 2) (by omega) (by omega)
        unfold Srt at s1
        have s2 : 0 < w (fc c) ∧ w (fc c) ≤ 9 := by
          rcases (show fc c % 2 = 0 ∨ fc c % 2 = 1 by omega) with r | r
          · rw [show 2 * (fc c / 2) = fc c by omega] at s1; omega
          · rw [show 2 * (fc c / 2) + 1 = fc c by omega] at s1; omega
        rcases (show fc c / 2 + w (fc c) < n ∨ n ≤ fc c / 2 + w (fc c) by omega) with r | r
        · rw [Int.emod_eq_of_lt (by omega) r] at e1; omega
        · have := md_u (x := fc c / 2 + w (fc c)) (n := n) (i := fc c / 2 + w (fc c) - n) (k := 1) (by omega) (by omega) (by omega)
          omega
      have f10 := f1.1
      have l21 := l2.2.1
      exact cl1_2 f10 (show fc c < so (fc c) by omega) l21 f3 l3)
    have := clS_b La (2 * n).toNat k.toNat
    omega
theorem drW_t {w : Int → Int} {n : Int} {D E : Int → Prop} (hS : ∀ b : Int, 0 ≤ b → b < n → Srt w b) (h : ∀ j, Th w (2 * n) j → (D j ↔ E j)) (j : Int) (j0 : 0 ≤ j) (j1 : j < 2 * n) : drW w D j = drW w E j := by
  have s1 := hS (j / 2) (by omega) (by omega)
  unfold Srt at s1
  unfold drW
  by_cases q : j % 2 = 0
  · rw [if_pos q, if_pos q]
    rw [show 2 * (j / 2) = j by omega] at s1
    by_cases w0 : w j = 0
    · have w1 : w (j + 1) = 0 := by omega
      rw [w0, w1]
      simp
    · have c0 := propext (h j ⟨j0, j1, w0⟩)
      by_cases w1 : w (j + 1) = 0
      · rw [w1, c0]; simp
      · have c1 := propext (h (j + 1) ⟨by omega, by omega, w1⟩)
        rw [c0, c1]
  · rw [if_neg q, if_neg q]
    rw [show 2 * (j / 2) + 1 = j by omega, show 2 * (j / 2) = j - 1 by omega] at s1
    by_cases w0 : w j = 0
    · rw [w0]; simp
    · have c0 := propext (h j ⟨j0, j1, w0⟩)
      have c1 := propext (h (j - 1) ⟨by omega, by omega, by omega⟩)
      rw [c0, c1]
theorem drW_s {w : Int → Int} {D : Int → Prop} {b : Int} (hs : Srt w b) : Srt (drW w D) b := by
  have h := dr_p (D := D) hs
  have v0 : ∀ j, (drV w D j = 0 ∨ drV w D j = w j) := fun j => by
    by_cases q : D j
    · exact Or.inl (drV_y q)
    · exact Or.inr (drV_n q)
  have a0 := v0 (2 * b)
  have a1 := v0 (2 * b + 1)
  unfold Srt at hs ⊢
  by_cases q : drV w D (2 * b) < drV w D (2 * b + 1)
  · rw [(h.1 q).1, (h.1 q).2]; omega
  · rw [(h.2 q).1, (h.2 q).2]; omega
theorem RefR_c {R : Nat → Int32} {T : Int} {Ev Ew : Int → Env1} (h : RefR R T Ev) (e : ∀ t l : Int, 0 ≤ t → t ≤ T → 0 ≤ l → l < 8 → (Ew t l).1 = (Ev t l).1 ∧ ∀ j : Int, 0 ≤ j → j < 2 * (Ev t l).1 → (Ew t l).2 j = (Ev t l).2 j) : RefR R T Ew := by
  intro t l t0 t1 l0 l1 r hr
  obtain ⟨a1, a2⟩ := h t l t0 t1 l0 l1 r hr
  obtain ⟨e1, e2⟩ := e t l t0 t1 l0 l1
  rw [e1]
  refine ⟨a1, fun q => ?_⟩
  obtain ⟨b1, b2⟩ := a2 q
  exact ⟨b1, fun c c0 c1 => by rw [e2 c c0 c1]; exact b2 c c0 c1⟩
/-- the two drops of one row -/
theorem dr_same {Ev : Int → Env1} {T lk x z : Int} {y : Int32} {La Lb : Int → Int} {k m : Int} {R : Nat → Int32} (hK : DrK Ev T lk x z) (hl : 0 ≤ lk ∧ lk ≤ T) (hO : ∀ t : Int, 0 ≤ t → t ≤ T → EOk (Ev t)) (h1 : DrL (Ev lk x).2 (Ev lk x).1 La k) (h2 : DrL (Ev lk x).2 (Ev lk x).1 Lb m) : (BtC k y ↔ BtM m y) ∧ (BtC k y → RefR R (T + 1) (evp Ev (T + 1) (eup (Ev T) z ((Ev lk x).1, drW (Ev lk x).2 (Dr Lb y)))) → RefR R (T + 1) (evp Ev (T + 1) (eup (Ev T) z ((Ev lk x).1, drW (Ev lk x).2 (Dc La y))))) ∧ ∀ t : Int, 0 ≤ t → t ≤ T + 1 → EOk (evp Ev (T + 1) (eup (Ev T) z ((Ev lk x).1, drW (Ev lk x).2 (Dc La y))) t) := by
  obtain ⟨x8, z8, T60, n0, hG⟩ := hK
  have hO1 := hO lk hl.1 hl.2 x x8.1 x8.2
  have b1 := DrL_30 h1 hG hO1.2.2 ⟨n0, hO1.2.1⟩
  have b2 := DrL_30 h2 hG hO1.2.2 ⟨n0, hO1.2.1⟩
  obtain ⟨so, c1, c2⟩ := h1
  obtain ⟨sp, d1, d2⟩ := h2
  have hB := SrcF_B c1 hG hO1.2.2
  have d3 : LabP (Ev lk x).2 (2 * (Ev lk x).1) so (2 * (Ev lk x).1) Lb m := by
    have e : ∀ t, Th (Ev lk x).2 (2 * (Ev lk x).1) t → sp t = so t := fun t ht => SrcF_u d1 c1 t ht.1 ht.2.1
    obtain ⟨f0, f1, f2, f3, f4, f5⟩ := d2
    refine ⟨f0, fun t ht => by rw [← e t ht]; exact f1 t ht, f2, f3, fun a b ha hb q0 q Q hQ qa => f4 a b ha hb q0 q Q (fun t ht => by rw [e t ht]; exact hQ t ht) qa, f5⟩
  obtain ⟨u1, u2⟩ := LabP_u c2 d3
  have hBt : BtC k y ↔ BtM m y := by rw [← u1]; exact Bt_e b1.1 b1.2
  refine ⟨hBt, fun hb hR => RefR_c hR (fun t l t0 t1 l0 l1 => ?_), fun t t0 t1 => ?_⟩
  · have hy := (hBt.mp hb).1
    by_cases e : t = T + 1
    · rw [e, ev_s, ev_s]
      by_cases q : l = z
      · rw [q, eu_s, eu_s]
        refine ⟨rfl, fun j j0 j1 => ?_⟩
        refine drW_t hO1.2.2 (fun i hi => ?_) j j0 j1
        exact D_e hy (u2 i hi) (by have := (c2.2.2.1 i hi.1 hi.2.1).2.1; omega)
      · rw [eu_n q, eu_n q]; exact ⟨rfl, fun _ _ _ => rfl⟩
    · rw [ev_n e, ev_n e]; exact ⟨rfl, fun _ _ _ => rfl⟩
  · by_cases e : t = T + 1
    · rw [e, ev_s]
      exact EOk_set (hO T (by omega) (Int.le_refl _)) ⟨n0, hO1.2.1⟩ (fun b c0 c1 => drW_s (hO1.2.2 b c0 c1))
    · rw [ev_n e]; exact hO t t0 (by omega)
