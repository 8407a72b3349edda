section
abbrev tp_St : Type := Nat → Nat → Int32
def tp_up (σ : tp_St) (f k : Nat) (x : Int32) : tp_St := fun g => if g = f then upd (σ f) k x else σ g
abbrev tp_oob (i : Int32) (n : Nat) : Prop := i < 0 ∨ n ≤ i.toNatClampNeg
end
section
def fC_isThere (σ : tp_St) (x1 : Int32) : Option Int32 := (if x1 < 0 then some 0 else (if 12 ≤ x1 then some 0 else (if tp_oob x1 12 then none else (if (σ 0 x1.toNatClampNeg) ≤ 0 then some 0 else some 1))))
def fC_disk (σ : tp_St) (x1 : Int32) (x2 : Int32) : Option (Nat × Int32 × tp_St) := (if x1 < 0 then some (1, 0, σ) else (if x1 < 12 then ((fC_isThere σ x1).bind fun q3 => (if q3 = 0 then (if x2 < 1 then some (3, 0, σ) else (if x2 ≤ 200 then (if tp_oob x1 12 then none else some (0, 0, (tp_up σ 0 x1.toNatClampNeg x2))) else some (3, 0, σ))) else some (2, 0, σ))) else some (1, 0, σ)))
def fC_leastUnusedNumber_L2 (σ : tp_St)  : Nat → Int32 → Option Int32
  | 0, _ => none
  | n2 + 1, x1 => (if 400 ≤ x1 then some (-1) else (if tp_oob x1 400 then none else (if (σ 3 x1.toNatClampNeg) = 0 then some x1 else fC_leastUnusedNumber_L2 σ  n2 (x1 + 1))))
def fC_leastUnusedNumber (σ : tp_St) : Option Int32 := fC_leastUnusedNumber_L2 σ  401 0
def fC_stays (σ : tp_St) (x1 : Int32) : Option Int32 := ((fC_isThere σ x1).bind fun q1 => (if q1 = 0 then some 0 else (if tp_oob x1 12 then none else (if (σ 2 x1.toNatClampNeg) = 0 then some 1 else some 0))))
def fC_freePlaces (σ : tp_St) (x1 : Int32) : Option Int32 := (if tp_oob x1 12 then none else some ((σ 0 x1.toNatClampNeg) - (σ 1 x1.toNatClampNeg)))
def fC_emptiestBut_L7 (σ : tp_St) (x1 : Int32) : Nat → Int32 → Int32 → Int32 → Option Int32
  | 0, _, _, _ => none
  | n7 + 1, x2, x3, x4 => (if 12 ≤ x4 then some x2 else (if x4 = x1 then fC_emptiestBut_L7 σ x1 n7 x2 x3 (x4 + 1) else ((fC_stays σ x4).bind fun q10010 => (if q10010 = 0 then fC_emptiestBut_L7 σ x1 n7 x2 x3 (x4 + 1) else ((fC_freePlaces σ x4).bind fun q10013 => (if q10013 ≤ x3 then fC_emptiestBut_L7 σ x1 n7 x2 x3 (x4 + 1) else ((fC_freePlaces σ x4).bind fun q10016 => fC_emptiestBut_L7 σ x1 n7 x4 q10016 (x4 + 1))))))))
def fC_emptiestBut (σ : tp_St) (x1 : Int32) : Option Int32 := fC_emptiestBut_L7 σ x1 13 (-1) 0 0
def fC_isOn (σ : tp_St) (x1 : Int32) (x2 : Int32) : Option Int32 := (if tp_oob x1 400 then none else (if (σ 4 x1.toNatClampNeg) = x2 then some 1 else (if (σ 5 x1.toNatClampNeg) = x2 then some 1 else some 0)))
def fC_copyForRoom (σ : tp_St) (x1 : Int32) (x2 : Int32) : Option Int32 := ((fC_isOn σ x1 x2).bind fun q1 => (if q1 = 0 then (if tp_oob x1 400 then none else ((fC_stays σ (σ 4 x1.toNatClampNeg)).bind fun q5 => (if q5 = 0 then ((fC_stays σ (σ 5 x1.toNatClampNeg)).bind fun q8 => (if q8 = 0 then some (-1) else some (σ 5 x1.toNatClampNeg))) else some (σ 4 x1.toNatClampNeg)))) else some (-1)))
def fC_otherThan (σ : tp_St) (x1 : Int32) (x2 : Int32) : Option Int32 := (if tp_oob x1 400 then none else (if (σ 4 x1.toNatClampNeg) = x2 then some (σ 5 x1.toNatClampNeg) else some (σ 4 x1.toNatClampNeg)))
def fC_hasLeft (σ : tp_St) (x1 : Int32) : Option Int32 := (if tp_oob x1 12 then none else (if (σ 2 x1.toNatClampNeg) = 0 then some 0 else (if (σ 1 x1.toNatClampNeg) = 0 then some 1 else some 0)))
def fC_takeAway (σ : tp_St) (x1 : Int32) : Option tp_St := (if tp_oob x1 12 then none else some (tp_up (tp_up σ 0 x1.toNatClampNeg 0) 2 x1.toNatClampNeg (vp_nar .boolean 0)))
def fC_dropCopy (σ : tp_St) (x1 : Int32) (x2 : Int32) : Option tp_St := ((fC_otherThan σ x1 x2).bind fun q1 => (if tp_oob x1 400 then none else (if tp_oob x2 12 then none else ((fC_hasLeft (tp_up (tp_up (tp_up σ 4 x1.toNatClampNeg q1) 5 x1.toNatClampNeg (-1)) 1 x2.toNatClampNeg (((tp_up (tp_up σ 4 x1.toNatClampNeg q1) 5 x1.toNatClampNeg (-1)) 1 x2.toNatClampNeg) - 1)) x2).bind fun q5 => (if q5 = 0 then some (tp_up (tp_up (tp_up σ 4 x1.toNatClampNeg q1) 5 x1.toNatClampNeg (-1)) 1 x2.toNatClampNeg (((tp_up (tp_up σ 4 x1.toNatClampNeg q1) 5 x1.toNatClampNeg (-1)) 1 x2.toNatClampNeg) - 1)) else ((fC_takeAway (tp_up (tp_up (tp_up σ 4 x1.toNatClampNeg q1) 5 x1.toNatClampNeg (-1)) 1 x2.toNatClampNeg (((tp_up (tp_up σ 4 x1.toNatClampNeg q1) 5 x1.toNatClampNeg (-1)) 1 x2.toNatClampNeg) - 1)) x2).bind fun q8 => some q8))))))
def fC_addCopy (σ : tp_St) (x1 : Int32) (x2 : Int32) : Option tp_St := (if tp_oob x1 400 then none else (if (σ 4 x1.toNatClampNeg) = (-1) then (if tp_oob x2 12 then none else some (tp_up (tp_up σ 4 x1.toNatClampNeg x2) 1 x2.toNatClampNeg (((tp_up σ 4 x1.toNatClampNeg x2) 1 x2.toNatClampNeg) + 1))) else (if tp_oob x2 12 then none else some (tp_up (tp_up (tp_up σ 4 x1.toNatClampNeg (if x2 < (σ 4 x1.toNatClampNeg) then x2 else (σ 4 x1.toNatClampNeg))) 5 x1.toNatClampNeg (if (σ 4 x1.toNatClampNeg) < x2 then x2 else (σ 4 x1.toNatClampNeg))) 1 x2.toNatClampNeg (((tp_up (tp_up σ 4 x1.toNatClampNeg (if x2 < (σ 4 x1.toNatClampNeg) then x2 else (σ 4 x1.toNatClampNeg))) 5 x1.toNatClampNeg (if (σ 4 x1.toNatClampNeg) < x2 then x2 else (σ 4 x1.toNatClampNeg))) 1 x2.toNatClampNeg) + 1)))))
def fC_moveCopy (σ : tp_St) (x1 : Int32) (x2 : Int32) (x3 : Int32) : Option tp_St := ((fC_dropCopy σ x1 x2).bind fun q1 => ((fC_addCopy q1 x1 x3).bind fun q3 => some q3))
def fC_makeRoomBeside_L2 (x1 : Int32) : Nat → Int32 → tp_St → Option (Int32 × tp_St)
  | 0, _, _ => none
  | n2 + 1, x2, σ2 => (if 400 ≤ x2 then some ((-1), σ2) else ((fC_copyForRoom σ2 x2 x1).bind fun q10004 => (if q10004 = (-1) then fC_makeRoomBeside_L2 x1 n2 (x2 + 1) σ2 else ((fC_moveCopy σ2 x2 q10004 x1).bind fun q10007 => some (q10004, (tp_up q10007 7 0 ((q10007 7 0) + 1)))))))
def fC_makeRoomBeside (σ : tp_St) (x1 : Int32) : Option (Int32 × tp_St) := fC_makeRoomBeside_L2 x1 401 0 σ
def fC_clearWords_L2 (x1 : Int32) : Nat → Int32 → tp_St → Option tp_St
  | 0, _, _ => none
  | n2 + 1, x2, σ2 => (if 4 ≤ x2 then some σ2 else (if tp_oob ((x1 * 4) + x2) 1600 then none else fC_clearWords_L2 x1 n2 (x2 + 1) (tp_up σ2 6 ((x1 * 4) + x2).toNatClampNeg 0)))
def fC_clearWords (σ : tp_St) (x1 : Int32) : Option tp_St := fC_clearWords_L2 x1 5 0 σ
def fC_newChunk (σ : tp_St) : Option (Int32 × tp_St) := ((fC_leastUnusedNumber σ ).bind fun q1 => ((fC_emptiestBut σ (-1)).bind fun q3 => (if q1 = (-1) then some ((-1), σ) else (if q3 = (-1) then some ((-1), σ) else ((fC_emptiestBut σ q3).bind fun q7 => (if q7 = (-1) then ((fC_freePlaces σ q3).bind fun q18 => (if q18 < 2 then (if q7 = (-1) then some ((-1), σ) else (if tp_oob q1 400 then none else ((fC_addCopy (tp_up σ 3 q1.toNatClampNeg (vp_nar .boolean 1)) q1 q3).bind fun q23 => ((fC_addCopy q23 q1 q7).bind fun q25 => ((fC_clearWords q25 q1).bind fun q27 => some (q1, q27)))))) else ((fC_makeRoomBeside σ q3).bind fun q29 => (if q29.1 = (-1) then some ((-1), q29.2) else (if tp_oob q1 400 then none else ((fC_addCopy (tp_up q29.2 3 q1.toNatClampNeg (vp_nar .boolean 1)) q1 q3).bind fun q33 => ((fC_addCopy q33 q1 q29.1).bind fun q35 => ((fC_clearWords q35 q1).bind fun q37 => some (q1, q37))))))))) else (if q7 = (-1) then some ((-1), σ) else (if tp_oob q1 400 then none else ((fC_addCopy (tp_up σ 3 q1.toNatClampNeg (vp_nar .boolean 1)) q1 q3).bind fun q12 => ((fC_addCopy q12 q1 q7).bind fun q14 => ((fC_clearWords q14 q1).bind fun q16 => some (q1, q16))))))))))))
def fC_chunk (σ : tp_St) : Option (Nat × Int32 × tp_St) := ((fC_newChunk σ ).bind fun q1 => (if q1.1 = (-1) then some (4, 0, q1.2) else some (0, q1.1, q1.2)))
def fC_chunks_L22 (x2 : Int32) : Nat → Int32 → tp_St → Option (Nat × Int32 × tp_St)
  | 0, _, _ => none
  | n22 + 1, x3, σ22 => (if x2 ≤ x3 then some (0, x3, σ22) else ((fC_newChunk σ22 ).bind fun q10024 => (if q10024.1 = (-1) then some (0, x3, q10024.2) else fC_chunks_L22 x2 n22 (x3 + 1) q10024.2)))
def fC_chunks (σ : tp_St) (x1 : Int32) : Option (Nat × Int32 × tp_St) := (if 0 ≤ x1 then fC_chunks_L22 (if 400 < x1 then 400 else x1) 401 0 σ else some (3, 0, σ))
def fC_isChunk (σ : tp_St) (x1 : Int32) : Option Int32 := (if x1 < 0 then some 0 else (if 400 ≤ x1 then some 0 else (if tp_oob x1 400 then none else (if (σ 3 x1.toNatClampNeg) = 0 then some 0 else some 1))))
def fC_copiesOf (σ : tp_St) (x1 : Int32) : Option Int32 := (if tp_oob x1 400 then none else (if (σ 4 x1.toNatClampNeg) = (-1) then some 0 else (if (σ 5 x1.toNatClampNeg) = (-1) then some 1 else some 2)))
def fC_free (σ : tp_St) (x1 : Int32) : Option (Nat × Int32 × tp_St) := ((fC_isChunk σ x1).bind fun q1 => (if q1 = 0 then some (1, 0, σ) else ((fC_copiesOf σ x1).bind fun q4 => (if tp_oob x1 400 then none else (if (σ 5 x1.toNatClampNeg) = (-1) then (if (σ 4 x1.toNatClampNeg) = (-1) then some (0, q4, (tp_up σ 3 x1.toNatClampNeg (vp_nar .boolean 0))) else ((fC_dropCopy σ x1 (σ 4 x1.toNatClampNeg)).bind fun q9 => some (0, q4, (tp_up q9 3 x1.toNatClampNeg (vp_nar .boolean 0))))) else ((fC_dropCopy σ x1 (σ 5 x1.toNatClampNeg)).bind fun q11 => (if (q11 4 x1.toNatClampNeg) = (-1) then some (0, q4, (tp_up q11 3 x1.toNatClampNeg (vp_nar .boolean 0))) else ((fC_dropCopy q11 x1 (q11 4 x1.toNatClampNeg)).bind fun q14 => some (0, q4, (tp_up q14 3 x1.toNatClampNeg (vp_nar .boolean 0)))))))))))
def fC_write (σ : tp_St) (x1 : Int32) (x2 : Int32) (x3 : Int32) : Option (Nat × Int32 × tp_St) := ((fC_isChunk σ x1).bind fun q1 => (if q1 = 0 then some (1, 0, σ) else (if x2 < 0 then some (1, 0, σ) else (if x2 < 4 then ((fC_copiesOf σ x1).bind fun q6 => (if q6 = 0 then some (2, 0, σ) else (if tp_oob ((x1 * 4) + x2) 1600 then none else some (0, 0, (tp_up σ 6 ((x1 * 4) + x2).toNatClampNeg x3))))) else some (1, 0, σ)))))
def fC_read (σ : tp_St) (x1 : Int32) (x2 : Int32) : Option (Nat × Int32 × tp_St) := ((fC_isChunk σ x1).bind fun q1 => (if q1 = 0 then some (1, 0, σ) else (if x2 < 0 then some (1, 0, σ) else (if x2 < 4 then ((fC_copiesOf σ x1).bind fun q6 => (if q6 = 0 then some (2, 0, σ) else (if tp_oob ((x1 * 4) + x2) 1600 then none else some (0, (σ 6 ((x1 * 4) + x2).toNatClampNeg), σ)))) else some (1, 0, σ)))))
def fC_fail_L25 (x1 : Int32) (x2 : Int32) : Nat → Int32 → tp_St → Option (Nat × Int32 × tp_St)
  | 0, _, _ => none
  | n25 + 1, x3, σ25 => (if 400 ≤ x3 then ((fC_takeAway σ25 x1).bind fun q10027 => some (0, x2, q10027)) else ((fC_isOn σ25 x3 x1).bind fun q10029 => (if q10029 = 0 then fC_fail_L25 x1 x2 n25 (x3 + 1) σ25 else ((fC_dropCopy σ25 x3 x1).bind fun q10032 => fC_fail_L25 x1 x2 n25 (x3 + 1) q10032))))
def fC_fail (σ : tp_St) (x1 : Int32) : Option (Nat × Int32 × tp_St) := ((fC_isThere σ x1).bind fun q1 => (if q1 = 0 then some (1, 0, σ) else (if tp_oob x1 12 then none else fC_fail_L25 x1 (σ 1 x1.toNatClampNeg) 401 0 σ)))
def fC_chunksWith_L4 (σ : tp_St) (x1 : Int32) : Nat → Int32 → Int32 → Option Int32
  | 0, _, _ => none
  | n4 + 1, x2, x3 => (if 400 ≤ x3 then some x2 else (if tp_oob x3 400 then none else (if (σ 3 x3.toNatClampNeg) = 0 then fC_chunksWith_L4 σ x1 n4 x2 (x3 + 1) else ((fC_copiesOf σ x3).bind fun q10008 => (if q10008 = x1 then fC_chunksWith_L4 σ x1 n4 (x2 + 1) (x3 + 1) else fC_chunksWith_L4 σ x1 n4 x2 (x3 + 1))))))
def fC_chunksWith (σ : tp_St) (x1 : Int32) : Option Int32 := fC_chunksWith_L4 σ x1 401 0 0
def fC_allChunks_L4 (σ : tp_St)  : Nat → Int32 → Int32 → Option Int32
  | 0, _, _ => none
  | n4 + 1, x1, x2 => (if 400 ≤ x2 then some x1 else (if tp_oob x2 400 then none else (if (σ 3 x2.toNatClampNeg) = 0 then fC_allChunks_L4 σ  n4 x1 (x2 + 1) else fC_allChunks_L4 σ  n4 (x1 + 1) (x2 + 1))))
def fC_allChunks (σ : tp_St) : Option Int32 := fC_allChunks_L4 σ  401 0 0
def fC_capacityWithout_L7 (σ : tp_St) (x1 : Int32) : Nat → Int32 → Int32 → Int32 → Option Int32
  | 0, _, _, _ => none
  | n7 + 1, x2, x3, x4 => (if 12 ≤ x4 then some (if (x2 - x3) < (x2 / 2) then (x2 - x3) else (x2 / 2)) else (if x4 = x1 then fC_capacityWithout_L7 σ x1 n7 x2 x3 (x4 + 1) else ((fC_stays σ x4).bind fun q10010 => (if q10010 = 0 then fC_capacityWithout_L7 σ x1 n7 x2 x3 (x4 + 1) else (if tp_oob x4 12 then none else fC_capacityWithout_L7 σ x1 n7 (x2 + (σ 0 x4.toNatClampNeg)) (if x3 < (σ 0 x4.toNatClampNeg) then (σ 0 x4.toNatClampNeg) else x3) (x4 + 1))))))
def fC_capacityWithout (σ : tp_St) (x1 : Int32) : Option Int32 := fC_capacityWithout_L7 σ x1 13 0 0 0
def fC_leave (σ : tp_St) (x1 : Int32) : Option (Nat × Int32 × tp_St) := ((fC_isThere σ x1).bind fun q1 => (if q1 = 0 then some (1, 0, σ) else (if tp_oob x1 12 then none else (if (σ 2 x1.toNatClampNeg) = 0 then ((fC_chunksWith σ 2).bind fun q6 => ((fC_allChunks σ ).bind fun q8 => (if q8 ≤ q6 then ((fC_allChunks σ ).bind fun q11 => ((fC_capacityWithout σ x1).bind fun q13 => (if q11 ≤ q13 then ((fC_hasLeft (tp_up σ 2 x1.toNatClampNeg (vp_nar .boolean 1)) x1).bind fun q16 => (if q16 = 0 then some (0, ((tp_up σ 2 x1.toNatClampNeg (vp_nar .boolean 1)) 1 x1.toNatClampNeg), (tp_up σ 2 x1.toNatClampNeg (vp_nar .boolean 1))) else ((fC_takeAway (tp_up σ 2 x1.toNatClampNeg (vp_nar .boolean 1)) x1).bind fun q19 => some (0, ((tp_up σ 2 x1.toNatClampNeg (vp_nar .boolean 1)) 1 x1.toNatClampNeg), q19)))) else some (4, 0, σ)))) else some (2, 0, σ)))) else some (2, 0, σ)))))
def fC_stay (σ : tp_St) (x1 : Int32) : Option (Nat × Int32 × tp_St) := ((fC_isThere σ x1).bind fun q1 => (if q1 = 0 then some (1, 0, σ) else (if tp_oob x1 12 then none else (if (σ 2 x1.toNatClampNeg) = 0 then some (2, 0, σ) else some (0, 0, (tp_up σ 2 x1.toNatClampNeg (vp_nar .boolean 0)))))))
def fC_isDegraded (σ : tp_St) (x1 : Int32) : Option Int32 := ((fC_copiesOf σ x1).bind fun q1 => (if q1 = 1 then some 1 else some 0))
def fC_mendOne_L2  : Nat → Int32 → tp_St → Option (Int32 × tp_St)
  | 0, _, _ => none
  | n2 + 1, x1, σ2 => (if 400 ≤ x1 then some (0, σ2) else ((fC_isDegraded σ2 x1).bind fun q10004 => (if q10004 = 0 then fC_mendOne_L2  n2 (x1 + 1) σ2 else (if tp_oob x1 400 then none else ((fC_emptiestBut σ2 (σ2 4 x1.toNatClampNeg)).bind fun q10008 => (if q10008 = (-1) then fC_mendOne_L2  n2 (x1 + 1) σ2 else ((fC_addCopy σ2 x1 q10008).bind fun q10011 => some (1, q10011))))))))
def fC_mendOne (σ : tp_St) : Option (Int32 × tp_St) := fC_mendOne_L2  401 0 σ
def fC_staysWithRoom (σ : tp_St) (x1 : Int32) : Option Int32 := ((fC_stays σ x1).bind fun q1 => (if q1 = 0 then some 0 else ((fC_freePlaces σ x1).bind fun q4 => (if q4 ≤ 0 then some 0 else some 1))))
def fC_makeRoomToMend_L2  : Nat → Int32 → tp_St → Option (Int32 × tp_St)
  | 0, _, _ => none
  | n2 + 1, x1, σ2 => (if 400 ≤ x1 then some (0, σ2) else ((fC_isDegraded σ2 x1).bind fun q10004 => (if q10004 = 0 then fC_makeRoomToMend_L2  n2 (x1 + 1) σ2 else (if tp_oob x1 400 then none else ((fC_staysWithRoom σ2 (σ2 4 x1.toNatClampNeg)).bind fun q10008 => (if q10008 = 0 then fC_makeRoomToMend_L2  n2 (x1 + 1) σ2 else ((fC_makeRoomBeside σ2 (σ2 4 x1.toNatClampNeg)).bind fun q10011 => (if q10011.1 = (-1) then some (0, q10011.2) else some (1, q10011.2)))))))))
def fC_makeRoomToMend (σ : tp_St) : Option (Int32 × tp_St) := fC_makeRoomToMend_L2  401 0 σ
def fC_moveOneOffDisk_L2 (x1 : Int32) : Nat → Int32 → tp_St → Option (Int32 × tp_St)
  | 0, _, _ => none
  | n2 + 1, x2, σ2 => (if 400 ≤ x2 then some (0, σ2) else ((fC_isOn σ2 x2 x1).bind fun q10004 => (if q10004 = 0 then fC_moveOneOffDisk_L2 x1 n2 (x2 + 1) σ2 else ((fC_otherThan σ2 x2 x1).bind fun q10007 => ((fC_emptiestBut σ2 q10007).bind fun q10009 => (if q10009 = (-1) then fC_moveOneOffDisk_L2 x1 n2 (x2 + 1) σ2 else ((fC_moveCopy σ2 x2 x1 q10009).bind fun q10012 => some (1, q10012))))))))
def fC_moveOneOffDisk (σ : tp_St) (x1 : Int32) : Option (Int32 × tp_St) := fC_moveOneOffDisk_L2 x1 401 0 σ
def fC_moveOneOff_L2  : Nat → Int32 → tp_St → Option (Int32 × tp_St)
  | 0, _, _ => none
  | n2 + 1, x1, σ2 => (if 12 ≤ x1 then some (0, σ2) else (if tp_oob x1 12 then none else (if (σ2 2 x1.toNatClampNeg) = 0 then fC_moveOneOff_L2  n2 (x1 + 1) σ2 else ((fC_moveOneOffDisk σ2 x1).bind fun q10006 => (if q10006.1 = 0 then fC_moveOneOff_L2  n2 (x1 + 1) q10006.2 else some (1, q10006.2))))))
def fC_moveOneOff (σ : tp_St) : Option (Int32 × tp_St) := fC_moveOneOff_L2  13 0 σ
def fC_otherDiskWithRoom_L2 (σ : tp_St) (x1 : Int32) : Nat → Int32 → Option Int32
  | 0, _ => none
  | n2 + 1, x2 => (if 400 ≤ x2 then some (-1) else ((fC_isOn σ x2 x1).bind fun q10004 => (if q10004 = 0 then fC_otherDiskWithRoom_L2 σ x1 n2 (x2 + 1) else ((fC_otherThan σ x2 x1).bind fun q10007 => ((fC_staysWithRoom σ q10007).bind fun q10009 => (if q10009 = 0 then fC_otherDiskWithRoom_L2 σ x1 n2 (x2 + 1) else ((fC_otherThan σ x2 x1).bind fun q10012 => some q10012)))))))
def fC_otherDiskWithRoom (σ : tp_St) (x1 : Int32) : Option Int32 := fC_otherDiskWithRoom_L2 σ x1 401 0
def fC_makeRoomToMoveOff_L2  : Nat → Int32 → tp_St → Option (Int32 × tp_St)
  | 0, _, _ => none
  | n2 + 1, x1, σ2 => (if 12 ≤ x1 then some (0, σ2) else (if tp_oob x1 12 then none else (if (σ2 2 x1.toNatClampNeg) = 0 then fC_makeRoomToMoveOff_L2  n2 (x1 + 1) σ2 else ((fC_otherDiskWithRoom σ2 x1).bind fun q10006 => (if q10006 = (-1) then fC_makeRoomToMoveOff_L2  n2 (x1 + 1) σ2 else ((fC_makeRoomBeside σ2 q10006).bind fun q10009 => (if q10009.1 = (-1) then some (0, q10009.2) else some (1, q10009.2))))))))
def fC_makeRoomToMoveOff (σ : tp_St) : Option (Int32 × tp_St) := fC_makeRoomToMoveOff_L2  13 0 σ
def fC_nextStep (σ : tp_St) : Option (Int32 × tp_St) := ((fC_mendOne σ ).bind fun q1 => (if q1.1 = 0 then ((fC_makeRoomToMend q1.2 ).bind fun q4 => (if q4.1 = 0 then ((fC_moveOneOff q4.2 ).bind fun q7 => (if q7.1 = 0 then ((fC_makeRoomToMoveOff q7.2 ).bind fun q10 => (if q10.1 = 0 then some (0, q10.2) else some (4, q10.2))) else some (3, q7.2))) else some (2, q4.2))) else some (1, q1.2)))
def fC_step (σ : tp_St) : Option (Int32 × tp_St) := ((fC_nextStep σ ).bind fun q1 => some (q1.1, q1.2))
def fC_steps_L21 (x2 : Int32) : Nat → Int32 → tp_St → Option (Nat × Int32 × tp_St)
  | 0, _, _ => none
  | n21 + 1, x3, σ21 => (if x2 ≤ x3 then some (0, x3, σ21) else ((fC_nextStep σ21 ).bind fun q10023 => (if q10023.1 = 0 then some (0, x3, q10023.2) else fC_steps_L21 x2 n21 (x3 + 1) q10023.2)))
def fC_steps (σ : tp_St) (x1 : Int32) : Option (Nat × Int32 × tp_St) := (if 0 ≤ x1 then fC_steps_L21 (if 1000000 < x1 then 1000000 else x1) 1000001 0 σ else some (3, 0, σ))
def fC_place (σ : tp_St) (x1 : Int32) (x2 : Int32) : Option (Nat × Int32 × tp_St) := ((fC_isChunk σ x1).bind fun q1 => (if q1 = 0 then some (1, 0, σ) else (if x2 = 0 then (if tp_oob x1 400 then none else some (0, (σ 4 x1.toNatClampNeg), σ)) else (if tp_oob x1 400 then none else some (0, (σ 5 x1.toNatClampNeg), σ)))))
def fC_leastChunkOn_L2 (σ : tp_St) (x1 : Int32) : Nat → Int32 → Option Int32
  | 0, _ => none
  | n2 + 1, x2 => (if 400 ≤ x2 then some (-1) else ((fC_isOn σ x2 x1).bind fun q10004 => (if q10004 = 0 then fC_leastChunkOn_L2 σ x1 n2 (x2 + 1) else some x2)))
def fC_leastChunkOn (σ : tp_St) (x1 : Int32) : Option Int32 := fC_leastChunkOn_L2 σ x1 401 0
def fC_about (σ : tp_St) (x1 : Int32) (x2 : Int32) : Option (Nat × Int32 × tp_St) := ((fC_isThere σ x1).bind fun q1 => (if q1 = 0 then some (1, 0, σ) else (if x2 = 0 then (if tp_oob x1 12 then none else some (0, (σ 0 x1.toNatClampNeg), σ)) else (if x2 = 1 then ((fC_freePlaces σ x1).bind fun q7 => some (0, q7, σ)) else (if x2 = 2 then (if tp_oob x1 12 then none else (if (σ 2 x1.toNatClampNeg) = 0 then some (0, 0, σ) else some (0, 1, σ))) else (if x2 = 3 then ((fC_leastChunkOn σ x1).bind fun q13 => some (0, q13, σ)) else some (3, 0, σ)))))))
def fC_disksThere_L4 (σ : tp_St)  : Nat → Int32 → Int32 → Option Int32
  | 0, _, _ => none
  | n4 + 1, x1, x2 => (if 12 ≤ x2 then some x1 else ((fC_isThere σ x2).bind fun q10006 => (if q10006 = 0 then fC_disksThere_L4 σ  n4 x1 (x2 + 1) else fC_disksThere_L4 σ  n4 (x1 + 1) (x2 + 1))))
def fC_disksThere (σ : tp_St) : Option Int32 := fC_disksThere_L4 σ  13 0 0
def fC_copiesOnLeaving_L4 (σ : tp_St)  : Nat → Int32 → Int32 → Option Int32
  | 0, _, _ => none
  | n4 + 1, x1, x2 => (if 12 ≤ x2 then some x1 else (if tp_oob x2 12 then none else (if (σ 2 x2.toNatClampNeg) = 0 then fC_copiesOnLeaving_L4 σ  n4 x1 (x2 + 1) else fC_copiesOnLeaving_L4 σ  n4 (x1 + (σ 1 x2.toNatClampNeg)) (x2 + 1))))
def fC_copiesOnLeaving (σ : tp_St) : Option Int32 := fC_copiesOnLeaving_L4 σ  13 0 0
def fC_count (σ : tp_St) (x1 : Int32) : Option (Nat × Int32 × tp_St) := (if x1 = 0 then ((fC_disksThere σ ).bind fun q2 => some (0, q2, σ)) else (if x1 = 1 then ((fC_allChunks σ ).bind fun q5 => some (0, q5, σ)) else (if x1 = 2 then ((fC_capacityWithout σ (-1)).bind fun q8 => some (0, q8, σ)) else (if x1 = 3 then ((fC_chunksWith σ 1).bind fun q11 => some (0, q11, σ)) else (if x1 = 4 then ((fC_chunksWith σ 0).bind fun q14 => some (0, q14, σ)) else (if x1 = 5 then ((fC_copiesOnLeaving σ ).bind fun q17 => some (0, q17, σ)) else (if x1 = 6 then some (0, (σ 7 0), σ) else some (3, 0, σ))))))))
end
section
def fM_thrown (σ : tp_St) : Option Int32 := some (σ 0 0)
def fM_isDisk (σ : tp_St) (x1 : Int32) : Option Int32 := (if x1 < 0 then some 0 else (if 12 ≤ x1 then some 0 else (if tp_oob x1 12 then none else (if (σ 1 x1.toNatClampNeg) ≤ 0 then some 0 else some 1))))
def fM_isChunk (σ : tp_St) (x1 : Int32) : Option Int32 := (if x1 < 0 then some 0 else (if 400 ≤ x1 then some 0 else (if tp_oob x1 400 then none else (if (σ 3 x1.toNatClampNeg) = 0 then some 0 else some 1))))
def fM_stays (σ : tp_St) (x1 : Int32) : Option Int32 := (if tp_oob x1 12 then none else (if (σ 1 x1.toNatClampNeg) ≤ 0 then some 0 else (if (σ 2 x1.toNatClampNeg) = 0 then some 1 else some 0)))
def fM_isOn (σ : tp_St) (x1 : Int32) (x2 : Int32) : Option Int32 := (if tp_oob x1 400 then none else (if (σ 3 x1.toNatClampNeg) = 0 then some 0 else (if (((σ 4 x1.toNatClampNeg) >>> (x2 &&& 31)) - ((σ 4 x1.toNatClampNeg) >>> (x2 &&& 31)) / 2 * 2) = 1 then some 1 else some 0)))
def fM_used_L4 (σ : tp_St) (x1 : Int32) : Nat → Int32 → Int32 → Option Int32
  | 0, _, _ => none
  | n4 + 1, x2, x3 => (if 400 ≤ x3 then some x2 else ((fM_isOn σ x3 x1).bind fun q10006 => (if q10006 = 0 then fM_used_L4 σ x1 n4 x2 (x3 + 1) else fM_used_L4 σ x1 n4 (x2 + 1) (x3 + 1))))
def fM_used (σ : tp_St) (x1 : Int32) : Option Int32 := fM_used_L4 σ x1 401 0 0
def fM_freeOn (σ : tp_St) (x1 : Int32) : Option Int32 := (if tp_oob x1 12 then none else ((fM_used σ x1).bind fun q2 => some ((σ 1 x1.toNatClampNeg) - q2)))
def fM_howMany_L4 (σ : tp_St) (x1 : Int32) : Nat → Int32 → Int32 → Option Int32
  | 0, _, _ => none
  | n4 + 1, x2, x3 => (if 12 ≤ x3 then some x2 else ((fM_isOn σ x1 x3).bind fun q10006 => (if q10006 = 0 then fM_howMany_L4 σ x1 n4 x2 (x3 + 1) else fM_howMany_L4 σ x1 n4 (x2 + 1) (x3 + 1))))
def fM_howMany (σ : tp_St) (x1 : Int32) : Option Int32 := fM_howMany_L4 σ x1 13 0 0
def fM_emptiest_L5 (σ : tp_St) (x1 : Int32) (x2 : Int32) : Nat → Int32 → Int32 → Option Int32
  | 0, _, _ => none
  | n5 + 1, x3, x4 => (if 12 ≤ x4 then some x3 else ((fM_stays σ x4).bind fun q10007 => (if q10007 = 0 then fM_emptiest_L5 σ x1 x2 n5 x3 (x4 + 1) else (if x4 = x1 then fM_emptiest_L5 σ x1 x2 n5 x3 (x4 + 1) else ((fM_freeOn σ x4).bind fun q10011 => (if q10011 ≤ 0 then fM_emptiest_L5 σ x1 x2 n5 x3 (x4 + 1) else (if x2 < 0 then (if x3 < 0 then fM_emptiest_L5 σ x1 x2 n5 x4 (x4 + 1) else ((fM_freeOn σ x4).bind fun q10016 => ((fM_freeOn σ x3).bind fun q10018 => (if q10016 ≤ q10018 then fM_emptiest_L5 σ x1 x2 n5 x3 (x4 + 1) else fM_emptiest_L5 σ x1 x2 n5 x4 (x4 + 1))))) else ((fM_isOn σ x2 x4).bind fun q10021 => (if q10021 = 0 then (if x3 < 0 then fM_emptiest_L5 σ x1 x2 n5 x4 (x4 + 1) else ((fM_freeOn σ x4).bind fun q10025 => ((fM_freeOn σ x3).bind fun q10027 => (if q10025 ≤ q10027 then fM_emptiest_L5 σ x1 x2 n5 x3 (x4 + 1) else fM_emptiest_L5 σ x1 x2 n5 x4 (x4 + 1))))) else fM_emptiest_L5 σ x1 x2 n5 x3 (x4 + 1))))))))))
def fM_emptiest (σ : tp_St) (x1 : Int32) (x2 : Int32) : Option Int32 := fM_emptiest_L5 σ x1 x2 13 (-1) 0
def fM_capacity_L7 (σ : tp_St) (x1 : Int32) : Nat → Int32 → Int32 → Int32 → Option Int32
  | 0, _, _, _ => none
  | n7 + 1, x2, x3, x4 => (if 12 ≤ x4 then (if (x2 - x3) ≤ (x2 / 2) then some (x2 - x3) else some (x2 / 2)) else ((fM_stays σ x4).bind fun q10010 => (if q10010 = 0 then fM_capacity_L7 σ x1 n7 x2 x3 (x4 + 1) else (if x4 = x1 then fM_capacity_L7 σ x1 n7 x2 x3 (x4 + 1) else (if tp_oob x4 12 then none else (if (σ 1 x4.toNatClampNeg) ≤ x3 then fM_capacity_L7 σ x1 n7 (x2 + (σ 1 x4.toNatClampNeg)) x3 (x4 + 1) else fM_capacity_L7 σ x1 n7 (x2 + (σ 1 x4.toNatClampNeg)) (σ 1 x4.toNatClampNeg) (x4 + 1)))))))
def fM_capacity (σ : tp_St) (x1 : Int32) : Option Int32 := fM_capacity_L7 σ x1 13 0 0 0
def fM_countWith_L4 (σ : tp_St) (x1 : Int32) : Nat → Int32 → Int32 → Option Int32
  | 0, _, _ => none
  | n4 + 1, x2, x3 => (if 400 ≤ x3 then some x2 else (if tp_oob x3 400 then none else (if (σ 3 x3.toNatClampNeg) = 0 then fM_countWith_L4 σ x1 n4 x2 (x3 + 1) else ((fM_howMany σ x3).bind fun q10008 => (if q10008 = x1 then fM_countWith_L4 σ x1 n4 (x2 + 1) (x3 + 1) else fM_countWith_L4 σ x1 n4 x2 (x3 + 1))))))
def fM_countWith (σ : tp_St) (x1 : Int32) : Option Int32 := fM_countWith_L4 σ x1 401 0 0
def fM_chunkCount (σ : tp_St) : Option Int32 := ((fM_countWith σ 0).bind fun q1 => ((fM_countWith σ 1).bind fun q3 => ((fM_countWith σ 2).bind fun q5 => some ((q1 + q3) + q5))))
def fM_tidy_L2  : Nat → Int32 → tp_St → Option tp_St
  | 0, _, _ => none
  | n2 + 1, x1, σ2 => (if 12 ≤ x1 then some σ2 else (if tp_oob x1 12 then none else (if (σ2 1 x1.toNatClampNeg) ≤ 0 then fM_tidy_L2  n2 (x1 + 1) σ2 else (if (σ2 2 x1.toNatClampNeg) = 0 then fM_tidy_L2  n2 (x1 + 1) σ2 else ((fM_used σ2 x1).bind fun q10007 => (if q10007 = 0 then fM_tidy_L2  n2 (x1 + 1) (tp_up σ2 1 x1.toNatClampNeg 0) else fM_tidy_L2  n2 (x1 + 1) σ2))))))
def fM_tidy (σ : tp_St) : Option tp_St := fM_tidy_L2  13 0 σ
def fM_makeRoom_L29 (K29 : tp_St → Option (Int32 × tp_St)) (x1 : Int32) (x2 : Int32) : Nat → Int32 → tp_St → Option (Int32 × tp_St)
  | 0, _, _ => none
  | n29 + 1, x3, σ29 => (if 12 ≤ x3 then K29 σ29 else ((fM_isOn σ29 x2 x3).bind fun q10031 => (if q10031 = 0 then fM_makeRoom_L29 K29 x1 x2 n29 (x3 + 1) σ29 else ((fM_stays σ29 x3).bind fun q10034 => (if q10034 = 0 then fM_makeRoom_L29 K29 x1 x2 n29 (x3 + 1) σ29 else (if tp_oob x2 400 then none else some (x3, (tp_up (tp_up σ29 4 x2.toNatClampNeg (((σ29 4 x2.toNatClampNeg) - (1 <<< (x3 &&& 31))) + (1 <<< (x1 &&& 31)))) 6 0 (((tp_up σ29 4 x2.toNatClampNeg (((σ29 4 x2.toNatClampNeg) - (1 <<< (x3 &&& 31))) + (1 <<< (x1 &&& 31)))) 6 0) + 1)))))))))
def fM_makeRoom_L2 (x1 : Int32) : Nat → Int32 → tp_St → Option (Int32 × tp_St)
  | 0, _, _ => none
  | n2 + 1, x2, σ2 => (if 400 ≤ x2 then some ((-1), σ2) else (if tp_oob x2 400 then none else (if (σ2 3 x2.toNatClampNeg) = 0 then fM_makeRoom_L2 x1 n2 (x2 + 1) σ2 else ((fM_isOn σ2 x2 x1).bind fun q10006 => (if q10006 = 0 then fM_makeRoom_L29 (fun (σ29k : tp_St) => fM_makeRoom_L2 x1 n2 (x2 + 1) σ29k) x1 x2 13 0 σ2 else fM_makeRoom_L2 x1 n2 (x2 + 1) σ2)))))
def fM_makeRoom (σ : tp_St) (x1 : Int32) : Option (Int32 × tp_St) := fM_makeRoom_L2 x1 401 0 σ
def fM_newChunk_L107 (x1 : Int32) : Nat → Int32 → tp_St → Option (Int32 × tp_St)
  | 0, _, _ => none
  | n107 + 1, x4, σ107 => (if 4 ≤ x4 then some (x1, σ107) else (if tp_oob ((4 * x1) + x4) 1600 then none else fM_newChunk_L107 x1 n107 (x4 + 1) (tp_up σ107 5 ((4 * x1) + x4).toNatClampNeg 0)))
def fM_newChunk_L2  : Nat → Int32 → tp_St → Option (Int32 × tp_St)
  | 0, _, _ => none
  | n2 + 1, x1, σ2 => (if 400 ≤ x1 then (if x1 = 400 then some ((-1), σ2) else ((fM_emptiest σ2 (-1) (-1)).bind fun q10005 => (if 0 ≤ q10005 then ((fM_emptiest σ2 q10005 (-1)).bind fun q10008 => (if q10005 < 0 then (if 0 ≤ q10008 then (if tp_oob x1 400 then none else fM_newChunk_L107 x1 5 0 (tp_up (tp_up σ2 3 x1.toNatClampNeg (vp_nar .boolean 1)) 4 x1.toNatClampNeg ((1 <<< (q10005 &&& 31)) + (1 <<< (q10008 &&& 31))))) else some ((-1), σ2)) else (if 0 ≤ q10008 then (if 0 ≤ q10008 then (if tp_oob x1 400 then none else fM_newChunk_L107 x1 5 0 (tp_up (tp_up σ2 3 x1.toNatClampNeg (vp_nar .boolean 1)) 4 x1.toNatClampNeg ((1 <<< (q10005 &&& 31)) + (1 <<< (q10008 &&& 31))))) else some ((-1), σ2)) else ((fM_freeOn σ2 q10005).bind fun q10020 => (if q10020 < 2 then (if 0 ≤ q10008 then (if tp_oob x1 400 then none else fM_newChunk_L107 x1 5 0 (tp_up (tp_up σ2 3 x1.toNatClampNeg (vp_nar .boolean 1)) 4 x1.toNatClampNeg ((1 <<< (q10005 &&& 31)) + (1 <<< (q10008 &&& 31))))) else some ((-1), σ2)) else ((fM_makeRoom σ2 q10005).bind fun q10027 => (if 0 ≤ q10027.1 then (if tp_oob x1 400 then none else fM_newChunk_L107 x1 5 0 (tp_up (tp_up q10027.2 3 x1.toNatClampNeg (vp_nar .boolean 1)) 4 x1.toNatClampNeg ((1 <<< (q10005 &&& 31)) + (1 <<< (q10027.1 &&& 31))))) else some ((-1), q10027.2)))))))) else (if q10005 < 0 then some ((-1), σ2) else ((fM_freeOn σ2 q10005).bind fun q10034 => (if q10034 < 2 then some ((-1), σ2) else ((fM_makeRoom σ2 q10005).bind fun q10037 => (if 0 ≤ q10037.1 then (if tp_oob x1 400 then none else fM_newChunk_L107 x1 5 0 (tp_up (tp_up q10037.2 3 x1.toNatClampNeg (vp_nar .boolean 1)) 4 x1.toNatClampNeg ((1 <<< (q10005 &&& 31)) + (1 <<< (q10037.1 &&& 31))))) else some ((-1), q10037.2))))))))) else (if tp_oob x1 400 then none else (if (σ2 3 x1.toNatClampNeg) = 0 then (if x1 = 400 then some ((-1), σ2) else ((fM_emptiest σ2 (-1) (-1)).bind fun q10046 => (if 0 ≤ q10046 then ((fM_emptiest σ2 q10046 (-1)).bind fun q10049 => (if q10046 < 0 then (if 0 ≤ q10049 then fM_newChunk_L107 x1 5 0 (tp_up (tp_up σ2 3 x1.toNatClampNeg (vp_nar .boolean 1)) 4 x1.toNatClampNeg ((1 <<< (q10046 &&& 31)) + (1 <<< (q10049 &&& 31)))) else some ((-1), σ2)) else (if 0 ≤ q10049 then (if 0 ≤ q10049 then fM_newChunk_L107 x1 5 0 (tp_up (tp_up σ2 3 x1.toNatClampNeg (vp_nar .boolean 1)) 4 x1.toNatClampNeg ((1 <<< (q10046 &&& 31)) + (1 <<< (q10049 &&& 31)))) else some ((-1), σ2)) else ((fM_freeOn σ2 q10046).bind fun q10059 => (if q10059 < 2 then (if 0 ≤ q10049 then fM_newChunk_L107 x1 5 0 (tp_up (tp_up σ2 3 x1.toNatClampNeg (vp_nar .boolean 1)) 4 x1.toNatClampNeg ((1 <<< (q10046 &&& 31)) + (1 <<< (q10049 &&& 31)))) else some ((-1), σ2)) else ((fM_makeRoom σ2 q10046).bind fun q10065 => (if 0 ≤ q10065.1 then fM_newChunk_L107 x1 5 0 (tp_up (tp_up q10065.2 3 x1.toNatClampNeg (vp_nar .boolean 1)) 4 x1.toNatClampNeg ((1 <<< (q10046 &&& 31)) + (1 <<< (q10065.1 &&& 31)))) else some ((-1), q10065.2)))))))) else (if q10046 < 0 then some ((-1), σ2) else ((fM_freeOn σ2 q10046).bind fun q10071 => (if q10071 < 2 then some ((-1), σ2) else ((fM_makeRoom σ2 q10046).bind fun q10074 => (if 0 ≤ q10074.1 then fM_newChunk_L107 x1 5 0 (tp_up (tp_up q10074.2 3 x1.toNatClampNeg (vp_nar .boolean 1)) 4 x1.toNatClampNeg ((1 <<< (q10046 &&& 31)) + (1 <<< (q10074.1 &&& 31)))) else some ((-1), q10074.2))))))))) else fM_newChunk_L2  n2 (x1 + 1) σ2)))
def fM_newChunk (σ : tp_St) : Option (Int32 × tp_St) := fM_newChunk_L2  401 0 σ
def fM_chunk (σ : tp_St) : Option (Int32 × tp_St) := ((fM_newChunk σ ).bind fun q1 => (if 0 ≤ q1.1 then (if 0 ≤ q1.1 then some (q1.1, (tp_up q1.2 0 0 0)) else some (0, (tp_up q1.2 0 0 0))) else (if 0 ≤ q1.1 then some (q1.1, (tp_up q1.2 0 0 1)) else some (0, (tp_up q1.2 0 0 1)))))
def fM_chunks_L15 (x1 : Int32) : Nat → Int32 → tp_St → Option (Int32 × tp_St)
  | 0, _, _ => none
  | n15 + 1, x2, σ15 => (if x1 ≤ x2 then some (x2, σ15) else ((fM_newChunk σ15 ).bind fun q10017 => (if q10017.1 < 0 then some (x2, q10017.2) else fM_chunks_L15 x1 n15 (x2 + 1) q10017.2)))
def fM_chunks (σ : tp_St) (x1 : Int32) : Option (Int32 × tp_St) := (if 0 ≤ x1 then fM_chunks_L15 x1 402 0 (tp_up σ 0 0 0) else fM_chunks_L15 x1 402 0 (tp_up σ 0 0 1))
def fM_free (σ : tp_St) (x1 : Int32) : Option (Int32 × tp_St) := ((fM_isChunk σ x1).bind fun q1 => (if q1 = 0 then some (0, (tp_up σ 0 0 1)) else ((fM_howMany (tp_up σ 0 0 0) x1).bind fun q4 => (if tp_oob x1 400 then none else ((fM_tidy (tp_up (tp_up (tp_up σ 0 0 0) 3 x1.toNatClampNeg (vp_nar .boolean 0)) 4 x1.toNatClampNeg 0) ).bind fun q7 => some (q4, q7))))))
def fM_copyOne_L2  : Nat → Int32 → tp_St → Option (Int32 × tp_St)
  | 0, _, _ => none
  | n2 + 1, x1, σ2 => (if 400 ≤ x1 then some (0, σ2) else (if tp_oob x1 400 then none else (if (σ2 3 x1.toNatClampNeg) = 0 then fM_copyOne_L2  n2 (x1 + 1) σ2 else ((fM_howMany σ2 x1).bind fun q10006 => (if q10006 = 1 then ((fM_emptiest σ2 (-1) x1).bind fun q10009 => (if q10009 < 0 then fM_copyOne_L2  n2 (x1 + 1) σ2 else some (1, (tp_up σ2 4 x1.toNatClampNeg ((σ2 4 x1.toNatClampNeg) + (1 <<< (q10009 &&& 31))))))) else fM_copyOne_L2  n2 (x1 + 1) σ2)))))
def fM_copyOne (σ : tp_St) : Option (Int32 × tp_St) := fM_copyOne_L2  401 0 σ
def fM_roomFor_L2 (x1 : Int32) (x2 : Int32) : Nat → Int32 → tp_St → Option (Int32 × tp_St)
  | 0, _, _ => none
  | n2 + 1, x3, σ2 => (if 12 ≤ x3 then some (0, σ2) else (if x3 = x2 then fM_roomFor_L2 x1 x2 n2 (x3 + 1) σ2 else ((fM_isOn σ2 x1 x3).bind fun q10005 => (if q10005 = 0 then fM_roomFor_L2 x1 x2 n2 (x3 + 1) σ2 else ((fM_stays σ2 x3).bind fun q10008 => (if q10008 = 0 then fM_roomFor_L2 x1 x2 n2 (x3 + 1) σ2 else ((fM_freeOn σ2 x3).bind fun q10011 => (if q10011 ≤ 0 then fM_roomFor_L2 x1 x2 n2 (x3 + 1) σ2 else ((fM_makeRoom σ2 x3).bind fun q10014 => (if q10014.1 < 0 then fM_roomFor_L2 x1 x2 n2 (x3 + 1) q10014.2 else some (1, q10014.2)))))))))))
def fM_roomFor (σ : tp_St) (x1 : Int32) (x2 : Int32) : Option (Int32 × tp_St) := fM_roomFor_L2 x1 x2 13 0 σ
def fM_roomForOne_L2  : Nat → Int32 → tp_St → Option (Int32 × tp_St)
  | 0, _, _ => none
  | n2 + 1, x1, σ2 => (if 400 ≤ x1 then some (0, σ2) else (if tp_oob x1 400 then none else (if (σ2 3 x1.toNatClampNeg) = 0 then fM_roomForOne_L2  n2 (x1 + 1) σ2 else ((fM_howMany σ2 x1).bind fun q10006 => (if q10006 = 1 then ((fM_roomFor σ2 x1 (-1)).bind fun q10009 => (if q10009.1 = 0 then fM_roomForOne_L2  n2 (x1 + 1) q10009.2 else some (1, q10009.2))) else fM_roomForOne_L2  n2 (x1 + 1) σ2)))))
def fM_roomForOne (σ : tp_St) : Option (Int32 × tp_St) := fM_roomForOne_L2  401 0 σ
def fM_leaveOne_L10 (K10 : tp_St → Option (Int32 × tp_St)) (x1 : Int32) (x2 : Int32) : Nat → Int32 → tp_St → Option (Int32 × tp_St)
  | 0, _, _ => none
  | n10 + 1, x3, σ10 => (if 400 ≤ x3 then K10 σ10 else (if tp_oob x2 12 then none else (if (σ10 1 x2.toNatClampNeg) ≤ 0 then K10 σ10 else (if (σ10 2 x2.toNatClampNeg) = 0 then K10 σ10 else ((fM_isOn σ10 x3 x2).bind fun q10015 => (if q10015 = 0 then fM_leaveOne_L10 K10 x1 x2 n10 (x3 + 1) σ10 else (if x1 = 0 then ((fM_emptiest σ10 (-1) x3).bind fun q10019 => (if q10019 < 0 then (if x1 = 0 then fM_leaveOne_L10 K10 x1 x2 n10 (x3 + 1) σ10 else ((fM_roomFor σ10 x3 x2).bind fun q10023 => (if q10023.1 = 0 then fM_leaveOne_L10 K10 x1 x2 n10 (x3 + 1) q10023.2 else some (1, q10023.2)))) else (if tp_oob x3 400 then none else some (1, (tp_up σ10 4 x3.toNatClampNeg (((σ10 4 x3.toNatClampNeg) - (1 <<< (x2 &&& 31))) + (1 <<< (q10019 &&& 31)))))))) else (if x1 = 0 then fM_leaveOne_L10 K10 x1 x2 n10 (x3 + 1) σ10 else ((fM_roomFor σ10 x3 x2).bind fun q10028 => (if q10028.1 = 0 then fM_leaveOne_L10 K10 x1 x2 n10 (x3 + 1) q10028.2 else some (1, q10028.2)))))))))))
def fM_leaveOne_L2 (x1 : Int32) : Nat → Int32 → tp_St → Option (Int32 × tp_St)
  | 0, _, _ => none
  | n2 + 1, x2, σ2 => (if 12 ≤ x2 then some (0, σ2) else fM_leaveOne_L10 (fun (σ10k : tp_St) => fM_leaveOne_L2 x1 n2 (x2 + 1) σ10k) x1 x2 401 0 σ2)
def fM_leaveOne (σ : tp_St) (x1 : Int32) : Option (Int32 × tp_St) := fM_leaveOne_L2 x1 13 0 σ
def fM_doStep (σ : tp_St) : Option (Int32 × tp_St) := ((fM_copyOne σ ).bind fun q1 => (if q1.1 = 0 then ((fM_roomForOne q1.2 ).bind fun q4 => (if q4.1 = 0 then ((fM_leaveOne q4.2 0).bind fun q7 => (if q7.1 = 0 then ((fM_leaveOne q7.2 1).bind fun q10 => (if q10.1 = 0 then ((fM_tidy q10.2 ).bind fun q13 => some (0, q13)) else ((fM_tidy q10.2 ).bind fun q15 => some (4, q15)))) else ((fM_tidy q7.2 ).bind fun q17 => some (3, q17)))) else ((fM_tidy q4.2 ).bind fun q19 => some (2, q19)))) else ((fM_tidy q1.2 ).bind fun q21 => some (1, q21))))
def fM_step (σ : tp_St) : Option (Int32 × tp_St) := ((fM_doStep (tp_up σ 0 0 0) ).bind fun q1 => some (q1.1, q1.2))
def fM_steps_L25 (x1 : Int32) : Nat → Int32 → Int32 → tp_St → Option (Int32 × tp_St)
  | 0, _, _, _ => none
  | n25 + 1, x2, x3, σ25 => (if x3 = 0 then some (x2, σ25) else ((fM_doStep σ25 ).bind fun q10027 => (if q10027.1 ≤ 0 then fM_steps_L25 x1 n25 x2 0 q10027.2 else (if x1 ≤ (x2 + 1) then fM_steps_L25 x1 n25 (x2 + 1) 0 q10027.2 else fM_steps_L25 x1 n25 (x2 + 1) 1 q10027.2))))
def fM_steps (σ : tp_St) (x1 : Int32) : Option (Int32 × tp_St) := (if 0 ≤ x1 then (if x1 ≤ 0 then fM_steps_L25 x1 1000001 0 0 (tp_up σ 0 0 0) else fM_steps_L25 x1 1000001 0 1 (tp_up σ 0 0 0)) else (if x1 ≤ 0 then fM_steps_L25 x1 1000001 0 0 (tp_up σ 0 0 1) else fM_steps_L25 x1 1000001 0 1 (tp_up σ 0 0 1)))
def fM_disk (σ : tp_St) (x1 : Int32) (x2 : Int32) : Option tp_St := (if x1 < 0 then some (tp_up σ 0 0 1) else (if x1 < 12 then (if tp_oob x1 12 then none else (if (σ 1 x1.toNatClampNeg) ≤ 0 then (if x2 < 1 then some (tp_up σ 0 0 3) else (if x2 ≤ 200 then some (tp_up (tp_up (tp_up σ 0 0 0) 1 x1.toNatClampNeg x2) 2 x1.toNatClampNeg (vp_nar .boolean 0)) else some (tp_up σ 0 0 3))) else some (tp_up σ 0 0 2))) else some (tp_up σ 0 0 1)))
def fM_fail_L34 (x1 : Int32) (x2 : Int32) : Nat → Int32 → tp_St → Option (Int32 × tp_St)
  | 0, _, _ => none
  | n34 + 1, x3, σ34 => (if 400 ≤ x3 then (if tp_oob x1 12 then none else some (x2, (tp_up σ34 1 x1.toNatClampNeg 0))) else ((fM_isOn σ34 x3 x1).bind fun q10037 => (if q10037 = 0 then (if tp_oob x3 400 then none else fM_fail_L34 x1 x2 n34 (x3 + 1) (tp_up σ34 4 x3.toNatClampNeg (σ34 4 x3.toNatClampNeg))) else (if tp_oob x3 400 then none else fM_fail_L34 x1 x2 n34 (x3 + 1) (tp_up σ34 4 x3.toNatClampNeg ((σ34 4 x3.toNatClampNeg) - (1 <<< (x1 &&& 31))))))))
def fM_fail (σ : tp_St) (x1 : Int32) : Option (Int32 × tp_St) := ((fM_isDisk σ x1).bind fun q1 => (if q1 = 0 then some (0, (tp_up σ 0 0 1)) else ((fM_used (tp_up σ 0 0 0) x1).bind fun q4 => fM_fail_L34 x1 q4 401 0 (tp_up σ 0 0 0))))
def fM_leave (σ : tp_St) (x1 : Int32) : Option (Int32 × tp_St) := ((fM_isDisk σ x1).bind fun q1 => (if q1 = 0 then some (0, (tp_up σ 0 0 1)) else (if tp_oob x1 12 then none else (if (σ 2 x1.toNatClampNeg) = 0 then ((fM_countWith σ 0).bind fun q6 => ((fM_countWith σ 1).bind fun q8 => (if (q6 + q8) ≤ 0 then ((fM_chunkCount σ ).bind fun q11 => ((fM_capacity σ x1).bind fun q13 => (if q11 ≤ q13 then ((fM_used (tp_up (tp_up σ 0 0 0) 2 x1.toNatClampNeg (vp_nar .boolean 1)) x1).bind fun q16 => ((fM_tidy (tp_up (tp_up σ 0 0 0) 2 x1.toNatClampNeg (vp_nar .boolean 1)) ).bind fun q18 => some (q16, q18))) else some (0, (tp_up σ 0 0 3))))) else some (0, (tp_up σ 0 0 2))))) else some (0, (tp_up σ 0 0 2))))))
def fM_stay (σ : tp_St) (x1 : Int32) : Option tp_St := ((fM_isDisk σ x1).bind fun q1 => (if q1 = 0 then some (tp_up σ 0 0 1) else (if tp_oob x1 12 then none else (if (σ 2 x1.toNatClampNeg) = 0 then some (tp_up σ 0 0 2) else some (tp_up (tp_up σ 0 0 0) 2 x1.toNatClampNeg (vp_nar .boolean 0))))))
def fM_write (σ : tp_St) (x1 : Int32) (x2 : Int32) (x3 : Int32) : Option tp_St := ((fM_isChunk σ x1).bind fun q1 => (if q1 = 0 then some (tp_up σ 0 0 1) else (if x2 < 0 then some (tp_up σ 0 0 1) else (if x2 ≤ 3 then (if tp_oob x1 400 then none else (if (σ 4 x1.toNatClampNeg) = 0 then some (tp_up σ 0 0 2) else (if tp_oob ((4 * x1) + x2) 1600 then none else some (tp_up (tp_up σ 0 0 0) 5 ((4 * x1) + x2).toNatClampNeg x3)))) else some (tp_up σ 0 0 1)))))
def fM_read (σ : tp_St) (x1 : Int32) (x2 : Int32) : Option (Int32 × tp_St) := ((fM_isChunk σ x1).bind fun q1 => (if q1 = 0 then some (0, (tp_up σ 0 0 1)) else (if x2 < 0 then some (0, (tp_up σ 0 0 1)) else (if x2 ≤ 3 then (if tp_oob x1 400 then none else (if (σ 4 x1.toNatClampNeg) = 0 then some (0, (tp_up σ 0 0 2)) else (if tp_oob ((4 * x1) + x2) 1600 then none else some (((tp_up σ 0 0 0) 5 ((4 * x1) + x2).toNatClampNeg), (tp_up σ 0 0 0))))) else some (0, (tp_up σ 0 0 1))))))
def fM_place_L34 (x1 : Int32) (x2 : Int32) : Nat → Int32 → Int32 → Int32 → tp_St → Option (Int32 × tp_St)
  | 0, _, _, _, _ => none
  | n34 + 1, x3, x4, x5, σ34 => (if 12 ≤ x5 then (if x2 = 0 then some (x3, σ34) else some (x4, σ34)) else ((fM_isOn σ34 x1 x5).bind fun q10037 => (if q10037 = 0 then fM_place_L34 x1 x2 n34 x3 x4 (x5 + 1) σ34 else (if 0 ≤ x3 then (if 0 ≤ x3 then fM_place_L34 x1 x2 n34 x3 x5 (x5 + 1) σ34 else fM_place_L34 x1 x2 n34 x5 x5 (x5 + 1) σ34) else (if 0 ≤ x3 then fM_place_L34 x1 x2 n34 x3 x4 (x5 + 1) σ34 else fM_place_L34 x1 x2 n34 x5 x4 (x5 + 1) σ34)))))
def fM_place (σ : tp_St) (x1 : Int32) (x2 : Int32) : Option (Int32 × tp_St) := ((fM_isChunk σ x1).bind fun q1 => (if q1 = 0 then some (0, (tp_up σ 0 0 1)) else fM_place_L34 x1 x2 13 (-1) (-1) 0 (tp_up σ 0 0 0)))
def fM_about_L87 (x1 : Int32) : Nat → Int32 → tp_St → Option (Int32 × tp_St)
  | 0, _, _ => none
  | n87 + 1, x3, σ87 => (if 400 ≤ x3 then some ((-1), σ87) else ((fM_isOn σ87 x3 x1).bind fun q10089 => (if q10089 = 0 then fM_about_L87 x1 n87 (x3 + 1) σ87 else some (x3, σ87))))
def fM_about (σ : tp_St) (x1 : Int32) (x2 : Int32) : Option (Int32 × tp_St) := ((fM_isDisk σ x1).bind fun q1 => (if q1 = 0 then some (0, (tp_up σ 0 0 1)) else (if x2 < 0 then some (0, (tp_up σ 0 0 2)) else (if x2 ≤ 3 then (if 3 ≤ x2 then fM_about_L87 x1 401 0 (tp_up σ 0 0 0) else (if x2 = 0 then (if tp_oob x1 12 then none else some (((tp_up σ 0 0 0) 1 x1.toNatClampNeg), (tp_up σ 0 0 0))) else (if x2 = 1 then ((fM_freeOn (tp_up σ 0 0 0) x1).bind fun q15 => some (q15, (tp_up σ 0 0 0))) else (if tp_oob x1 12 then none else (if ((tp_up σ 0 0 0) 2 x1.toNatClampNeg) = 0 then some (0, (tp_up σ 0 0 0)) else some (1, (tp_up σ 0 0 0))))))) else some (0, (tp_up σ 0 0 2))))))
def fM_count_L35 (x1 : Int32) : Nat → Int32 → Int32 → Int32 → tp_St → Option (Int32 × tp_St)
  | 0, _, _, _, _ => none
  | n35 + 1, x2, x3, x4, σ35 => (if 12 ≤ x4 then (if x1 = 0 then some (x2, σ35) else (if x1 = 1 then ((fM_chunkCount σ35 ).bind fun q10049 => some (q10049, σ35)) else (if x1 = 2 then ((fM_capacity σ35 (-1)).bind fun q10047 => some (q10047, σ35)) else (if x1 = 3 then ((fM_countWith σ35 1).bind fun q10045 => some (q10045, σ35)) else (if x1 = 4 then ((fM_countWith σ35 0).bind fun q10043 => some (q10043, σ35)) else (if x1 = 5 then some (x3, σ35) else some ((σ35 6 0), σ35))))))) else (if tp_oob x4 12 then none else (if (σ35 1 x4.toNatClampNeg) ≤ 0 then (if (σ35 1 x4.toNatClampNeg) ≤ 0 then fM_count_L35 x1 n35 x2 x3 (x4 + 1) σ35 else (if (σ35 2 x4.toNatClampNeg) = 0 then fM_count_L35 x1 n35 x2 x3 (x4 + 1) σ35 else ((fM_used σ35 x4).bind fun q10055 => fM_count_L35 x1 n35 x2 (x3 + q10055) (x4 + 1) σ35))) else (if (σ35 1 x4.toNatClampNeg) ≤ 0 then fM_count_L35 x1 n35 (x2 + 1) x3 (x4 + 1) σ35 else (if (σ35 2 x4.toNatClampNeg) = 0 then fM_count_L35 x1 n35 (x2 + 1) x3 (x4 + 1) σ35 else ((fM_used σ35 x4).bind fun q10059 => fM_count_L35 x1 n35 (x2 + 1) (x3 + q10059) (x4 + 1) σ35))))))
def fM_count (σ : tp_St) (x1 : Int32) : Option (Int32 × tp_St) := (if x1 < 0 then some (0, (tp_up σ 0 0 1)) else (if 6 < x1 then some (0, (tp_up σ 0 0 1)) else fM_count_L35 x1 13 0 0 0 (tp_up σ 0 0 0)))
end
section
abbrev tp_nI (n : Nat) : Int32 := Int32.ofNat n
theorem tp_nI_t {i : Nat} (h : i < 2000000) : (tp_nI i).toNatClampNeg = i := Int32.toNatClampNeg_ofNat_of_lt (by omega)
theorem tp_nI_le {i j : Nat} (hi : i < 2000000) (hj : j < 2000000) : tp_nI i ≤ tp_nI j ↔ i ≤ j := Int32.ofNat_le_iff_le (by omega) (by omega)
theorem tp_nI_lt {i j : Nat} (hi : i < 2000000) (hj : j < 2000000) : tp_nI i < tp_nI j ↔ i < j := Int32.ofNat_lt_iff_lt (by omega) (by omega)
theorem tp_nI_eq {i j : Nat} (hi : i < 2000000) (hj : j < 2000000) : tp_nI i = tp_nI j ↔ i = j := ⟨fun h => by rw [← tp_nI_t hi, h, tp_nI_t hj], fun h => by rw [h]⟩
theorem tp_nI_add (a b : Nat) : tp_nI (a + b) = tp_nI a + tp_nI b := Int32.ofNat_add a b
theorem tp_nI_mul (a b : Nat) : tp_nI (a * b) = tp_nI a * tp_nI b := Int32.ofNat_mul a b
theorem tp_nI_s (i : Nat) : tp_nI i + 1 = tp_nI (i + 1) := (Int32.ofNat_add i 1).symm
theorem tp_nI_nn {i : Nat} (h : i < 2000000) : ¬ tp_nI i < 0 := fun z => absurd ((tp_nI_lt (j := 0) h (by omega)).mp z) (by omega)
theorem tp_nI_0 {i : Nat} (h : i < 2000000) : tp_nI i = 0 ↔ i = 0 := tp_nI_eq (j := 0) h (by omega)
theorem tp_nI_pos {i : Nat} (h : i < 2000000) : 0 < tp_nI i ↔ 0 < i := tp_nI_lt (i := 0) (by omega) h
theorem tp_nI_np {i : Nat} (h : i < 2000000) : tp_nI i ≤ 0 ↔ i = 0 := by
  have := tp_nI_le (j := 0) h (by omega)
  exact ⟨fun z => by have := this.mp z; omega, fun z => this.mpr (by omega)⟩
theorem tp_nI_m {i : Nat} (h : i < 2000000) : tp_nI i ≠ -1 := fun z => tp_nI_nn h (by rw [z]; decide)
theorem tp_nI_m' {i : Nat} (h : i < 2000000) : (-1 : Int32) ≠ tp_nI i := fun z => tp_nI_m h z.symm
theorem tp_g4 {i : Nat} (h : i < 400) : ¬ (400 : Int32) ≤ tp_nI i := fun z => absurd ((tp_nI_le (i := 400) (by omega) (by omega)).mp z) (by omega)
theorem tp_gd {i : Nat} (h : i < 12) : ¬ (12 : Int32) ≤ tp_nI i := fun z => absurd ((tp_nI_le (i := 12) (by omega) (by omega)).mp z) (by omega)
theorem tp_b4 {i : Nat} (h : i < 400) : ¬ tp_oob (tp_nI i) 400 := fun z => z.elim (tp_nI_nn (by omega)) (fun z => by rw [tp_nI_t (by omega)] at z; omega)
theorem tp_bd {i : Nat} (h : i < 12) : ¬ tp_oob (tp_nI i) 12 := fun z => z.elim (tp_nI_nn (by omega)) (fun z => by rw [tp_nI_t (by omega)] at z; omega)
theorem tp_bw {i : Nat} (h : i < 1600) : ¬ tp_oob (tp_nI i) 1600 := fun z => z.elim (tp_nI_nn (by omega)) (fun z => by rw [tp_nI_t (by omega)] at z; omega)
theorem tp_t4 {i : Nat} (h : i < 400) : (tp_nI i).toNatClampNeg = i := tp_nI_t (by omega)
theorem tp_td {i : Nat} (h : i < 12) : (tp_nI i).toNatClampNeg = i := tp_nI_t (by omega)
theorem tp_int_cases (N : Nat) (hN : N < 2000000) (x : Int32) : (∃ d, d < N ∧ x = tp_nI d) ∨ x < 0 ∨ tp_nI N ≤ x := by
  by_cases h : x < 0
  · exact .inr (.inl h)
  · have h0 : tp_nI x.toNatClampNeg = x := Int32.ofNat_toNatClampNeg x (Int32.not_lt.mp h)
    by_cases h1 : x.toNatClampNeg < N
    · exact .inl ⟨_, h1, h0.symm⟩
    · refine .inr (.inr ?_)
      rw [← h0]
      exact (Int32.ofNat_le_iff_le (by omega) x.toNatClampNeg_lt).mpr (by omega)
def tp_findF (p : Nat → Bool) : Nat → Nat → Option Nat
  | 0, _ => none
  | k + 1, i => if p i then some i else tp_findF p k (i + 1)
theorem tp_findF_some {p : Nat → Bool} : ∀ {k i j : Nat}, tp_findF p k i = some j → i ≤ j ∧ j < i + k ∧ p j = true ∧ ∀ m, i ≤ m → m < j → p m = false := by
  intro k
  induction k with
  | zero => intro i j h; cases h
  | succ k ih =>
    intro i j h
    rw [tp_findF] at h
    by_cases hp : p i = true
    · rw [if_pos hp] at h
      cases h
      exact ⟨Nat.le_refl _, by omega, hp, fun m h1 h2 => absurd h1 (by omega)⟩
    · rw [if_neg hp] at h
      obtain ⟨h1, h2, h3, h4⟩ := ih h
      refine ⟨by omega, by omega, h3, fun m h5 h6 => ?_⟩
      rcases Nat.lt_or_ge i m with h7 | h7
      · exact h4 m h7 h6
      · have : m = i := by omega
        rw [this]; exact Bool.eq_false_iff.mpr hp
theorem tp_findF_none {p : Nat → Bool} : ∀ {k i : Nat}, tp_findF p k i = none → ∀ m, i ≤ m → m < i + k → p m = false := by
  intro k
  induction k with
  | zero => intro i _ m h1 h2; omega
  | succ k ih =>
    intro i h m h1 h2
    rw [tp_findF] at h
    by_cases hp : p i = true
    · rw [if_pos hp] at h; cases h
    · rw [if_neg hp] at h
      rcases Nat.lt_or_ge i m with h7 | h7
      · exact ih h m h7 (by omega)
      · have : m = i := by omega
        rw [this]; exact Bool.eq_false_iff.mpr hp
theorem tp_findF_congr {p q : Nat → Bool} : ∀ {k i : Nat}, (∀ m, i ≤ m → m < i + k → p m = q m) → tp_findF p k i = tp_findF q k i := by
  intro k
  induction k with
  | zero => intro i _; rfl
  | succ k ih =>
    intro i h
    rw [tp_findF, tp_findF, h i (Nat.le_refl _) (by omega), ih (fun m h1 h2 => h m (by omega) (by omega))]
theorem tp_findF_is {p : Nat → Bool} {N j : Nat} (hj : j < N) (hp : p j = true) (hn : ∀ m, m < j → p m = false) : tp_findF p N 0 = some j := by
  cases h : tp_findF p N 0 with
  | none => have := tp_findF_none h j (by omega) (by omega); rw [hp] at this; cases this
  | some i =>
    obtain ⟨h1, h2, h3, h4⟩ := tp_findF_some h
    rcases Nat.lt_trichotomy i j with h5 | h5 | h5
    · rw [hn i h5] at h3; cases h3
    · rw [h5]
    · rw [h4 j (by omega) h5] at hp; cases hp
theorem tp_findF_no {p : Nat → Bool} {N : Nat} (hn : ∀ m, m < N → p m = false) : tp_findF p N 0 = none := by
  cases h : tp_findF p N 0 with
  | none => rfl
  | some i => obtain ⟨h1, h2, h3, h4⟩ := tp_findF_some h; rw [hn i (by omega)] at h3; cases h3
theorem tp_find_loop {α : Type} {F : Nat → Int32 → α} {N : Nat} {p : Nat → Bool} {hit : Nat → α} {miss : α} (h0 : F 1 (tp_nI N) = miss)
    (h1 : ∀ n i, i < N → F (n + 1) (tp_nI i) = if p i then hit i else F n (tp_nI i + 1)) : ∀ k i, i + k = N → F (k + 1) (tp_nI i) = (tp_findF p k i).elim miss hit := by
  intro k
  induction k with
  | zero => intro i h; rw [show i = N from by omega, h0]; rfl
  | succ k ih =>
    intro i h
    rw [h1 (k + 1) i (by omega), tp_findF]
    by_cases hp : p i = true
    · rw [if_pos hp, if_pos hp]; rfl
    · rw [if_neg hp, if_neg hp, tp_nI_s, ih (i + 1) (by omega)]
theorem tp_find_loop0 {α : Type} {F : Nat → Int32 → α} {N : Nat} {p : Nat → Bool} {hit : Nat → α} {miss : α} (h0 : F 1 (tp_nI N) = miss)
    (h1 : ∀ n i, i < N → F (n + 1) (tp_nI i) = if p i then hit i else F n (tp_nI i + 1)) : F (N + 1) 0 = (tp_findF p N 0).elim miss hit := tp_find_loop h0 h1 N 0 (Nat.zero_add N)
theorem tp_acc_loop {α β : Type} {F : Nat → β → Int32 → α} {N : Nat} {acc : Nat → β} {fin : α} (h0 : F 1 (acc N) (tp_nI N) = fin)
    (h1 : ∀ n i, i < N → F (n + 1) (acc i) (tp_nI i) = F n (acc (i + 1)) (tp_nI i + 1)) : ∀ k i, i + k = N → F (k + 1) (acc i) (tp_nI i) = fin := by
  intro k
  induction k with
  | zero => intro i h; rw [show i = N from by omega, h0]
  | succ k ih => intro i h; rw [h1 (k + 1) i (by omega), tp_nI_s, ih (i + 1) (by omega)]
theorem tp_acc_loop0 {α β : Type} {F : Nat → β → Int32 → α} {N : Nat} {acc : Nat → β} {fin : α} (h0 : F 1 (acc N) (tp_nI N) = fin)
    (h1 : ∀ n i, i < N → F (n + 1) (acc i) (tp_nI i) = F n (acc (i + 1)) (tp_nI i + 1)) : F (N + 1) (acc 0) 0 = fin := tp_acc_loop h0 h1 N 0 (Nat.zero_add N)
def tp_sumF (f : Nat → Nat) : Nat → Nat
  | 0 => 0
  | n + 1 => tp_sumF f n + f n
abbrev tp_cntF (p : Nat → Bool) (n : Nat) : Nat := tp_sumF (fun i => (p i).toNat) n
theorem tp_sumF_congr {f g : Nat → Nat} : ∀ {n : Nat}, (∀ i, i < n → f i = g i) → tp_sumF f n = tp_sumF g n := by
  intro n
  induction n with
  | zero => intro _; rfl
  | succ n ih => intro h; rw [tp_sumF, tp_sumF, ih (fun i hi => h i (by omega)), h n (by omega)]
theorem tp_cntF_congr {p q : Nat → Bool} {n : Nat} (h : ∀ i, i < n → p i = q i) : tp_cntF p n = tp_cntF q n := tp_sumF_congr (fun i hi => congrArg Bool.toNat (h i hi))
theorem tp_sumF_upd {f g : Nat → Nat} {c : Nat} : ∀ {n : Nat}, c < n → (∀ i, i < n → i ≠ c → f i = g i) → tp_sumF f n + g c = tp_sumF g n + f c := by
  intro n
  induction n with
  | zero => intro h _; omega
  | succ n ih =>
    intro hc h
    rw [tp_sumF, tp_sumF]
    by_cases e : c = n
    · rw [tp_sumF_congr (f := f) (g := g) (n := n) (fun i hi => h i (by omega) (by omega)), e]; omega
    · have := ih (by omega) (fun i hi hne => h i (by omega) hne)
      rw [h n (by omega) (by omega)]; omega
theorem tp_sumF_le {f : Nat → Nat} {b : Nat} : ∀ {n : Nat}, (∀ i, i < n → f i ≤ b) → tp_sumF f n ≤ n * b := by
  intro n
  induction n with
  | zero => intro _; rw [tp_sumF]; omega
  | succ n ih => intro h; rw [tp_sumF, Nat.succ_mul]; have := ih (fun i hi => h i (by omega)); have := h n (by omega); omega
theorem tp_sumF_add {f g : Nat → Nat} : ∀ {n : Nat}, tp_sumF (fun i => f i + g i) n = tp_sumF f n + tp_sumF g n := by
  intro n
  induction n with
  | zero => rfl
  | succ n ih => rw [tp_sumF, tp_sumF, tp_sumF, ih]; omega
theorem tp_cntF_le (p : Nat → Bool) (n : Nat) : tp_cntF p n ≤ n := by
  have := tp_sumF_le (f := fun i => (p i).toNat) (b := 1) (n := n) (fun i _ => by cases p i <;> decide)
  show tp_sumF _ n ≤ n
  omega
theorem tp_sumF_zero {f : Nat → Nat} : ∀ {n : Nat}, tp_sumF f n = 0 → ∀ i, i < n → f i = 0 := by
  intro n
  induction n with
  | zero => intro _ i hi; omega
  | succ n ih =>
    intro h i hi
    rw [tp_sumF] at h
    by_cases e : i = n
    · rw [e]; omega
    · exact ih (by omega) i (by omega)
theorem tp_sumF_all0 {f : Nat → Nat} {n : Nat} (h : ∀ i, i < n → f i = 0) : tp_sumF f n = 0 := by
  have := tp_sumF_le (f := f) (b := 0) (n := n) (fun i hi => by rw [h i hi]; exact Nat.le_refl 0)
  omega
theorem tp_cntF_full {p : Nat → Bool} : ∀ {n : Nat}, n ≤ tp_cntF p n → ∀ i, i < n → p i = true := by
  intro n
  induction n with
  | zero => intro _ i hi; omega
  | succ n ih =>
    intro h i hi
    have h1 : tp_cntF p (n + 1) = tp_cntF p n + (p n).toNat := rfl
    have h2 := tp_cntF_le p n
    have h3 : (p n).toNat ≤ 1 := by cases p n <;> decide
    by_cases e : i = n
    · rw [e]
      cases hp : p n with
      | true => rfl
      | false => rw [hp] at h1; have h4 : (false).toNat = 0 := rfl; omega
    · exact ih (by omega) i (by omega)
theorem tp_cntF_pos {p : Nat → Bool} {n i : Nat} (hi : i < n) (hp : p i = true) : 0 < tp_cntF p n := by
  rcases Nat.eq_zero_or_pos (tp_cntF p n) with h | h
  · have := tp_sumF_zero h i hi; rw [hp] at this; cases this
  · exact h
theorem tp_cnt_loop {α : Type} {F : Nat → Int32 → Int32 → α} {N : Nat} {p : Nat → Bool} {fin : α} (h0 : F 1 (tp_nI (tp_cntF p N)) (tp_nI N) = fin)
    (h1 : ∀ n i a, i < N → F (n + 1) a (tp_nI i) = F n (if p i then a + 1 else a) (tp_nI i + 1)) : F (N + 1) 0 0 = fin :=
  tp_acc_loop0 (acc := fun i => tp_nI (tp_cntF p i)) h0 (fun n i hi => by
    rw [h1 n i _ hi]
    congr 1
    show _ = tp_nI (tp_cntF p i + (p i).toNat)
    cases p i with
    | true => exact tp_nI_s _
    | false => rfl)
def tp_bt (x : Int32) : Int32 := if x < 0 then 0 else 1 <<< (x &&& 31)
def tp_mK (l g : Int32) : Int32 := tp_bt l + tp_bt g
abbrev tp_onB (m x : Int32) : Prop := ((m >>> (x &&& 31)) - (m >>> (x &&& 31)) / 2 * 2) = 1
def tp_VV (l g : Int32) : Prop := (l = -1 ∧ g = -1) ∨ (∃ a, a < 12 ∧ l = tp_nI a ∧ g = -1) ∨ (∃ a b, a < b ∧ b < 12 ∧ l = tp_nI a ∧ g = tp_nI b)
theorem tp_bt_n {d : Nat} (h : d < 12) : 1 <<< (tp_nI d &&& 31) = tp_bt (tp_nI d) := by rw [tp_bt, if_neg (tp_nI_nn (by omega))]
theorem tp_on_0 : ∀ d, d < 12 → ¬ tp_onB (tp_mK (-1) (-1)) (tp_nI d) := by decide +kernel
theorem tp_on_1 : ∀ a, a < 12 → ∀ d, d < 12 → (tp_onB (tp_mK (tp_nI a) (-1)) (tp_nI d) ↔ d = a) := by decide +kernel
theorem tp_on_2 : ∀ a, a < 12 → ∀ b, b < 12 → a < b → ∀ d, d < 12 → (tp_onB (tp_mK (tp_nI a) (tp_nI b)) (tp_nI d) ↔ d = a ∨ d = b) := by decide +kernel
theorem tp_mk_z : tp_mK (-1) (-1) = 0 := by decide +kernel
theorem tp_mk_n1 : ∀ a, a < 12 → tp_mK (tp_nI a) (-1) ≠ 0 := by decide +kernel
theorem tp_mk_n2 : ∀ a, a < 12 → ∀ b, b < 12 → a < b → tp_mK (tp_nI a) (tp_nI b) ≠ 0 := by decide +kernel
theorem tp_mk_sw (l g : Int32) : tp_mK l g = tp_mK g l := Int32.add_comm _ _
theorem tp_bt_m : tp_bt (-1) = 0 := by decide +kernel
end
section
theorem tp_up_ne {σ : tp_St} {f k : Nat} {x : Int32} {g : Nat} (h : g ≠ f) : tp_up σ f k x g = σ g := if_neg h
theorem tp_up_at {σ : tp_St} {f k : Nat} {x : Int32} (j : Nat) : tp_up σ f k x f j = if j = k then x else σ f j := by
  show (if f = f then upd (σ f) k x else σ f) j = _
  rw [if_pos rfl]; rfl
theorem tp_up_eq {σ : tp_St} {f k : Nat} {x : Int32} : tp_up σ f k x f k = x := by rw [tp_up_at, if_pos rfl]
theorem tp_up_nk {σ : tp_St} {f k : Nat} {x : Int32} {j : Nat} (h : j ≠ k) : tp_up σ f k x f j = σ f j := by rw [tp_up_at, if_neg h]
def tp_bI (b : Bool) : Int32 := if b then 1 else 0
theorem tp_bI_0 (b : Bool) : (tp_bI b = 0) ↔ b = false := by cases b <;> decide
def tp_oN (σ : tp_St) (c d : Nat) : Bool := decide (σ 4 c = tp_nI d) || decide (σ 5 c = tp_nI d)
def tp_cn (σ : tp_St) (d : Nat) : Nat := tp_cntF (fun c => tp_oN σ c d) 400
def tp_Inv (σ : tp_St) : Prop :=
  (∀ d, d < 12 → ∃ P, P ≤ 200 ∧ σ 0 d = tp_nI P ∧ tp_cn σ d ≤ P) ∧
  (∀ d, d < 12 → σ 1 d = tp_nI (tp_cn σ d)) ∧
  (∀ d, d < 12 → σ 2 d = 0 ∨ (σ 2 d = 1 ∧ 0 < tp_cn σ d)) ∧
  (∀ c, c < 400 → (σ 3 c = 0 ∧ σ 4 c = -1 ∧ σ 5 c = -1) ∨ (σ 3 c = 1 ∧ tp_VV (σ 4 c) (σ 5 c)))
def tp_Rel (X : Nat → Prop) (σ τ : tp_St) : Prop :=
  (∀ d, d < 12 → (τ 1 d = σ 0 d ∨ (X d ∧ σ 0 d = 0 ∧ 0 < τ 1 d ∧ τ 2 d ≠ 0)) ∧ (0 < σ 0 d → τ 2 d = σ 2 d)) ∧
  (∀ c, c < 400 → τ 3 c = σ 3 c ∧ τ 4 c = tp_mK (σ 4 c) (σ 5 c)) ∧
  (∀ k, k < 1600 → τ 5 k = σ 6 k) ∧ τ 6 0 = σ 7 0
abbrev tp_noX : Nat → Prop := fun _ => False
theorem tp_Rel.pl {σ τ : tp_St} (h : tp_Rel tp_noX σ τ) {d : Nat} (hd : d < 12) : τ 1 d = σ 0 d := ((h.1 d hd).1).elim id (fun z => z.1.elim)
theorem tp_Rel.th {X : Nat → Prop} {σ τ : tp_St} (h : tp_Rel X σ τ) {c : Nat} (hc : c < 400) : τ 3 c = σ 3 c := (h.2.1 c hc).1
theorem tp_Rel.cp {X : Nat → Prop} {σ τ : tp_St} (h : tp_Rel X σ τ) {c : Nat} (hc : c < 400) : τ 4 c = tp_mK (σ 4 c) (σ 5 c) := (h.2.1 c hc).2
theorem tp_Rel.thrown {X : Nat → Prop} {σ τ : tp_St} (h : tp_Rel X σ τ) (x : Int32) : tp_Rel X σ (tp_up τ 0 0 x) := h
theorem tp_Inv.vv {σ : tp_St} (h : tp_Inv σ) {c : Nat} (hc : c < 400) : tp_VV (σ 4 c) (σ 5 c) := by
  rcases h.2.2.2 c hc with ⟨_, h1, h2⟩ | ⟨_, h1⟩
  · exact .inl ⟨h1, h2⟩
  · exact h1
theorem tp_Inv.ex {σ : tp_St} (h : tp_Inv σ) {c : Nat} (hc : c < 400) (hne : σ 4 c ≠ -1) : σ 3 c = 1 := by
  rcases h.2.2.2 c hc with ⟨_, h1, h2⟩ | ⟨h1, _⟩
  · exact absurd h1 hne
  · exact h1
theorem tp_cn_le (σ : tp_St) (d : Nat) : tp_cn σ d ≤ 400 := tp_cntF_le _ 400
def tp_th (σ : tp_St) (d : Nat) : Bool := decide (0 < σ 0 d)
def tp_sy (σ : tp_St) (d : Nat) : Bool := decide (0 < σ 0 d) && decide (σ 2 d = 0)
def tp_fr (σ : tp_St) (d : Nat) : Int32 := σ 0 d - σ 1 d
def tp_syv (σ : tp_St) (x : Int32) : Bool := if x = -1 then false else tp_sy σ x.toNatClampNeg
theorem tp_syv_m (σ : tp_St) : tp_syv σ (-1) = false := if_pos rfl
theorem tp_syv_n (σ : tp_St) {d : Nat} (h : d < 12) : tp_syv σ (tp_nI d) = tp_sy σ d := by rw [tp_syv, if_neg (tp_nI_m (by omega)), tp_td h]
theorem tp_C_isThere {σ : tp_St} {d : Nat} (h : d < 12) : fC_isThere σ (tp_nI d) = some (tp_bI (tp_th σ d)) := by
  rw [fC_isThere, if_neg (tp_nI_nn (by omega)), if_neg (tp_gd h), if_neg (tp_bd h), tp_td h]
  by_cases z : σ 0 d ≤ 0
  · rw [if_pos z, tp_th, decide_eq_false (by rw [Int32.not_lt]; exact z)]; rfl
  · rw [if_neg z, tp_th, decide_eq_true (Int32.not_le.mp z)]; rfl
theorem tp_C_isThere_m {σ : tp_St} : fC_isThere σ (-1) = some 0 := by rw [fC_isThere, if_pos (by decide)]
theorem tp_C_isThere_o {σ : tp_St} {x : Int32} (h : x < 0 ∨ 12 ≤ x) : fC_isThere σ x = some 0 := by
  rw [fC_isThere]
  rcases h with h | h
  · rw [if_pos h]
  · by_cases z : x < 0
    · rw [if_pos z]
    · rw [if_neg z, if_pos h]
theorem tp_C_stays {σ : tp_St} {d : Nat} (h : d < 12) : fC_stays σ (tp_nI d) = some (tp_bI (tp_sy σ d)) := by
  rw [fC_stays, tp_C_isThere h, Option.bind_some]
  by_cases z : 0 < σ 0 d
  · rw [tp_th, decide_eq_true z, if_neg (by decide), if_neg (tp_bd h), tp_td h, tp_sy, decide_eq_true z]
    by_cases y : σ 2 d = 0
    · rw [if_pos y, decide_eq_true y]; rfl
    · rw [if_neg y, decide_eq_false y]; rfl
  · rw [tp_th, decide_eq_false z, if_pos (by decide), tp_sy, decide_eq_false z]; rfl
theorem tp_C_stays_m {σ : tp_St} : fC_stays σ (-1) = some 0 := by rw [fC_stays, tp_C_isThere_m, Option.bind_some, if_pos rfl]
def tp_DD (x : Int32) : Prop := x = -1 ∨ ∃ d, d < 12 ∧ x = tp_nI d
theorem tp_VV.l {l g : Int32} (h : tp_VV l g) : tp_DD l := by
  rcases h with ⟨h, _⟩ | ⟨a, ha, h, _⟩ | ⟨a, b, h1, h2, h, _⟩
  · exact .inl h
  · exact .inr ⟨a, ha, h⟩
  · exact .inr ⟨a, by omega, h⟩
theorem tp_VV.g {l g : Int32} (h : tp_VV l g) : tp_DD g := by
  rcases h with ⟨_, h⟩ | ⟨a, ha, _, h⟩ | ⟨a, b, h1, h2, _, h⟩
  · exact .inl h
  · exact .inl h
  · exact .inr ⟨b, h2, h⟩
theorem tp_C_staysv {σ : tp_St} {x : Int32} (h : tp_DD x) : fC_stays σ x = some (tp_bI (tp_syv σ x)) := by
  rcases h with h | ⟨d, hd, h⟩
  · rw [h, tp_C_stays_m, tp_syv_m]; rfl
  · rw [h, tp_C_stays hd, tp_syv_n σ hd]
theorem tp_C_free {σ : tp_St} {d : Nat} (h : d < 12) : fC_freePlaces σ (tp_nI d) = some (tp_fr σ d) := by rw [fC_freePlaces, if_neg (tp_bd h), tp_td h, tp_fr]
def tp_swr (σ : tp_St) (x : Int32) : Bool := tp_syv σ x && decide (0 < tp_fr σ x.toNatClampNeg)
theorem tp_C_swr {σ : tp_St} {x : Int32} (h : tp_DD x) : fC_staysWithRoom σ x = some (tp_bI (tp_swr σ x)) := by
  rw [fC_staysWithRoom, tp_C_staysv h, Option.bind_some, tp_swr]
  cases hs : tp_syv σ x with
  | false => rw [if_pos (by decide)]; rfl
  | true =>
    rw [if_neg (by decide)]
    rcases h with h | ⟨d, hd, h⟩
    · rw [h, tp_syv_m] at hs; cases hs
    · rw [h, tp_C_free hd, Option.bind_some, tp_td hd]
      by_cases z : tp_fr σ d ≤ 0
      · rw [if_pos z, decide_eq_false (by rw [Int32.not_lt]; exact z)]; rfl
      · rw [if_neg z, decide_eq_true (Int32.not_le.mp z)]; rfl
theorem tp_C_isOn {σ : tp_St} {c : Nat} (h : c < 400) (x : Int32) : fC_isOn σ (tp_nI c) x = some (tp_bI (decide (σ 4 c = x) || decide (σ 5 c = x))) := by
  rw [fC_isOn, if_neg (tp_b4 h), tp_t4 h]
  by_cases y : σ 4 c = x
  · rw [if_pos y, decide_eq_true y]; rfl
  · rw [if_neg y, decide_eq_false y]
    by_cases z : σ 5 c = x
    · rw [if_pos z, decide_eq_true z]; rfl
    · rw [if_neg z, decide_eq_false z]; rfl
theorem tp_C_isOn' {σ : tp_St} {c : Nat} (h : c < 400) (d : Nat) : fC_isOn σ (tp_nI c) (tp_nI d) = some (tp_bI (tp_oN σ c d)) := tp_C_isOn h (tp_nI d)
def tp_ot (σ : tp_St) (c d : Nat) : Int32 := if σ 4 c = tp_nI d then σ 5 c else σ 4 c
theorem tp_C_other {σ : tp_St} {c : Nat} (h : c < 400) (d : Nat) : fC_otherThan σ (tp_nI c) (tp_nI d) = some (tp_ot σ c d) := by
  rw [fC_otherThan, if_neg (tp_b4 h), tp_t4 h, tp_ot]
  by_cases y : σ 4 c = tp_nI d
  · rw [if_pos y, if_pos y]
  · rw [if_neg y, if_neg y]
def tp_nc (σ : tp_St) (c : Nat) : Nat := if σ 4 c = -1 then 0 else if σ 5 c = -1 then 1 else 2
theorem tp_C_copies {σ : tp_St} {c : Nat} (h : c < 400) : fC_copiesOf σ (tp_nI c) = some (tp_nI (tp_nc σ c)) := by
  rw [fC_copiesOf, if_neg (tp_b4 h), tp_t4 h, tp_nc]
  by_cases y : σ 4 c = -1
  · rw [if_pos y, if_pos y]; rfl
  · rw [if_neg y, if_neg y]
    by_cases z : σ 5 c = -1
    · rw [if_pos z, if_pos z]; rfl
    · rw [if_neg z, if_neg z]; rfl
def tp_dg (σ : tp_St) (c : Nat) : Bool := decide (tp_nc σ c = 1)
theorem tp_nc_lt (σ : tp_St) (c : Nat) : tp_nc σ c < 3 := by
  unfold tp_nc
  by_cases y : σ 4 c = -1
  · rw [if_pos y]; omega
  · rw [if_neg y]
    by_cases z : σ 5 c = -1
    · rw [if_pos z]; omega
    · rw [if_neg z]; omega
theorem tp_C_deg {σ : tp_St} {c : Nat} (h : c < 400) : fC_isDegraded σ (tp_nI c) = some (tp_bI (tp_dg σ c)) := by
  rw [fC_isDegraded, tp_C_copies h, Option.bind_some, tp_dg]
  have := tp_nc_lt σ c
  by_cases y : tp_nc σ c = 1
  · rw [y, if_pos (show tp_nI 1 = 1 from rfl)]; rfl
  · rw [if_neg (show ¬ tp_nI (tp_nc σ c) = 1 from fun z => y ((tp_nI_eq (j := 1) (by omega) (by omega)).mp z)), decide_eq_false y]; rfl
theorem tp_C_isChunk {σ : tp_St} {c : Nat} (h : c < 400) : fC_isChunk σ (tp_nI c) = some (tp_bI (decide (σ 3 c ≠ 0))) := by
  rw [fC_isChunk, if_neg (tp_nI_nn (by omega)), if_neg (tp_g4 h), if_neg (tp_b4 h), tp_t4 h]
  by_cases y : σ 3 c = 0
  · rw [if_pos y, decide_eq_false (fun z => z y)]; rfl
  · rw [if_neg y, decide_eq_true y]; rfl
theorem tp_C_isChunk_o {σ : tp_St} {x : Int32} (h : x < 0 ∨ 400 ≤ x) : fC_isChunk σ x = some 0 := by
  rw [fC_isChunk]
  rcases h with h | h
  · rw [if_pos h]
  · by_cases z : x < 0
    · rw [if_pos z]
    · rw [if_neg z, if_pos h]
theorem tp_M_isDisk {σ τ : tp_St} (R : tp_Rel tp_noX σ τ) {d : Nat} (h : d < 12) : fM_isDisk τ (tp_nI d) = some (tp_bI (tp_th σ d)) := by
  rw [fM_isDisk, if_neg (tp_nI_nn (by omega)), if_neg (tp_gd h), if_neg (tp_bd h), tp_td h, R.pl h]
  by_cases z : σ 0 d ≤ 0
  · rw [if_pos z, tp_th, decide_eq_false (by rw [Int32.not_lt]; exact z)]; rfl
  · rw [if_neg z, tp_th, decide_eq_true (Int32.not_le.mp z)]; rfl
theorem tp_M_isDisk_o {τ : tp_St} {x : Int32} (h : x < 0 ∨ 12 ≤ x) : fM_isDisk τ x = some 0 := by
  rw [fM_isDisk]
  rcases h with h | h
  · rw [if_pos h]
  · by_cases z : x < 0
    · rw [if_pos z]
    · rw [if_neg z, if_pos h]
theorem tp_M_isChunk {X : Nat → Prop} {σ τ : tp_St} (R : tp_Rel X σ τ) {c : Nat} (h : c < 400) : fM_isChunk τ (tp_nI c) = some (tp_bI (decide (σ 3 c ≠ 0))) := by
  rw [fM_isChunk, if_neg (tp_nI_nn (by omega)), if_neg (tp_g4 h), if_neg (tp_b4 h), tp_t4 h, R.th h]
  by_cases y : σ 3 c = 0
  · rw [if_pos y, decide_eq_false (fun z => z y)]; rfl
  · rw [if_neg y, decide_eq_true y]; rfl
theorem tp_M_isChunk_o {τ : tp_St} {x : Int32} (h : x < 0 ∨ 400 ≤ x) : fM_isChunk τ x = some 0 := by
  rw [fM_isChunk]
  rcases h with h | h
  · rw [if_pos h]
  · by_cases z : x < 0
    · rw [if_pos z]
    · rw [if_neg z, if_pos h]
theorem tp_M_stays {σ τ : tp_St} (R : tp_Rel tp_noX σ τ) {d : Nat} (h : d < 12) : fM_stays τ (tp_nI d) = some (tp_bI (tp_sy σ d)) := by
  rw [fM_stays, if_neg (tp_bd h), tp_td h, R.pl h, tp_sy]
  by_cases z : 0 < σ 0 d
  · rw [if_neg (Int32.not_le.mpr z), (R.1 d h).2 z, decide_eq_true z]
    by_cases y : σ 2 d = 0
    · rw [if_pos y, decide_eq_true y]; rfl
    · rw [if_neg y, decide_eq_false y]; rfl
  · rw [if_pos (Int32.not_lt.mp z), decide_eq_false z]; rfl
theorem tp_on_V {σ : tp_St} {c d : Nat} (h : tp_VV (σ 4 c) (σ 5 c)) (hd : d < 12) : tp_onB (tp_mK (σ 4 c) (σ 5 c)) (tp_nI d) ↔ tp_oN σ c d = true := by
  rw [tp_oN]
  rcases h with ⟨h1, h2⟩ | ⟨a, ha, h1, h2⟩ | ⟨a, b, ha, hb, h1, h2⟩
  · rw [h1, h2]
    rw [decide_eq_false (tp_nI_m' (by omega))]
    exact ⟨fun z => absurd z (tp_on_0 d hd), fun z => by cases z⟩
  · rw [h1, h2, decide_eq_false (tp_nI_m' (i := d) (by omega)), Bool.or_false, decide_eq_true_eq, tp_nI_eq (by omega) (by omega)]
    exact ⟨fun z => ((tp_on_1 a ha d hd).mp z).symm, fun z => (tp_on_1 a ha d hd).mpr z.symm⟩
  · rw [h1, h2, Bool.or_eq_true, decide_eq_true_eq, decide_eq_true_eq, tp_nI_eq (by omega) (by omega), tp_nI_eq (by omega) (by omega)]
    have k := tp_on_2 a (by omega) b hb ha d hd
    exact ⟨fun z => (k.mp z).imp Eq.symm Eq.symm, fun z => k.mpr (z.imp Eq.symm Eq.symm)⟩
theorem tp_M_isOn {X : Nat → Prop} {σ τ : tp_St} (I : tp_Inv σ) (R : tp_Rel X σ τ) {c d : Nat} (h : c < 400) (hd : d < 12) : fM_isOn τ (tp_nI c) (tp_nI d) = some (tp_bI (tp_oN σ c d)) := by
  rw [fM_isOn, if_neg (tp_b4 h), tp_t4 h, R.th h, R.cp h]
  by_cases y : σ 3 c = 0
  · rw [if_pos y]
    have h4 : σ 4 c = -1 ∧ σ 5 c = -1 := by
      rcases I.2.2.2 c h with z | z
      · exact z.2
      · rw [z.1] at y; exact absurd y (by decide)
    rw [tp_oN, h4.1, h4.2, decide_eq_false (tp_nI_m' (by omega))]; rfl
  · rw [if_neg y]
    by_cases z : tp_onB (tp_mK (σ 4 c) (σ 5 c)) (tp_nI d)
    · rw [if_pos z, (tp_on_V (I.vv h) hd).mp z]; rfl
    · rw [if_neg z, Bool.eq_false_iff.mpr (fun w => z ((tp_on_V (I.vv h) hd).mpr w))]; rfl
theorem tp_if_bI {α : Type} (b : Bool) (x y : α) : (if tp_bI b = 0 then x else y) = if b then y else x := by cases b <;> rfl
theorem tp_M_used {X : Nat → Prop} {σ τ : tp_St} (I : tp_Inv σ) (R : tp_Rel X σ τ) {d : Nat} (hd : d < 12) : fM_used τ (tp_nI d) = some (tp_nI (tp_cn σ d)) :=
  tp_cnt_loop (F := fun n a x => fM_used_L4 τ (tp_nI d) n a x) (N := 400) (p := fun c => tp_oN σ c d) (by rw [fM_used_L4, if_pos (by decide)]; rfl) (fun n i a hi => by
    show fM_used_L4 τ (tp_nI d) (n + 1) a (tp_nI i) = fM_used_L4 τ (tp_nI d) n _ (tp_nI i + 1)
    rw [fM_used_L4, if_neg (tp_g4 hi), tp_M_isOn I R hi hd, Option.bind_some, tp_if_bI]
    cases tp_oN σ i d <;> rfl)
theorem tp_M_freeOn {σ τ : tp_St} (I : tp_Inv σ) (R : tp_Rel tp_noX σ τ) {d : Nat} (hd : d < 12) : fM_freeOn τ (tp_nI d) = some (tp_fr σ d) := by
  rw [fM_freeOn, if_neg (tp_bd hd), tp_M_used I R hd, Option.bind_some, tp_td hd, R.pl hd, tp_fr, I.2.1 d hd]
theorem tp_nc_cnt0 : tp_cntF (fun d => decide ((-1 : Int32) = tp_nI d) || decide ((-1 : Int32) = tp_nI d)) 12 = 0 := by decide +kernel
theorem tp_nc_cnt1 : ∀ a, a < 12 → tp_cntF (fun d => decide (tp_nI a = tp_nI d) || decide ((-1 : Int32) = tp_nI d)) 12 = 1 := by decide +kernel
theorem tp_nc_cnt2 : ∀ a, a < 12 → ∀ b, b < 12 → a < b → tp_cntF (fun d => decide (tp_nI a = tp_nI d) || decide (tp_nI b = tp_nI d)) 12 = 2 := by decide +kernel
theorem tp_nc_cnt {σ : tp_St} {c : Nat} (h : tp_VV (σ 4 c) (σ 5 c)) : tp_cntF (fun d => tp_oN σ c d) 12 = tp_nc σ c := by
  unfold tp_oN tp_nc
  rcases h with ⟨h1, h2⟩ | ⟨a, ha, h1, h2⟩ | ⟨a, b, ha, hb, h1, h2⟩
  · rw [h1, h2, if_pos rfl]; exact tp_nc_cnt0
  · rw [h1, h2, if_neg (tp_nI_m (by omega)), if_pos rfl]; exact tp_nc_cnt1 a ha
  · rw [h1, h2, if_neg (tp_nI_m (by omega)), if_neg (tp_nI_m (by omega))]; exact tp_nc_cnt2 a (by omega) b hb ha
theorem tp_M_howMany {X : Nat → Prop} {σ τ : tp_St} (I : tp_Inv σ) (R : tp_Rel X σ τ) {c : Nat} (hc : c < 400) : fM_howMany τ (tp_nI c) = some (tp_nI (tp_nc σ c)) := by
  rw [← tp_nc_cnt (I.vv hc)]
  exact tp_cnt_loop (F := fun n a x => fM_howMany_L4 τ (tp_nI c) n a x) (N := 12) (p := fun d => tp_oN σ c d) (by rw [fM_howMany_L4, if_pos (by decide)]) (fun n i a hi => by
    show fM_howMany_L4 τ (tp_nI c) (n + 1) a (tp_nI i) = fM_howMany_L4 τ (tp_nI c) n _ (tp_nI i + 1)
    rw [fM_howMany_L4, if_neg (tp_gd hi), tp_M_isOn I R hc hi, Option.bind_some, tp_if_bI]
    cases tp_oN σ c i <;> rfl)
end
section
def tp_eM (q : Nat → Bool) (f : Nat → Int32) : Nat → Option Nat
  | 0 => none
  | n + 1 => if q n && decide (0 < f n) && (tp_eM q f n).elim true (fun b => decide (f b < f n)) then some n else tp_eM q f n
def tp_enc (o : Option Nat) : Int32 := o.elim (-1) tp_nI
theorem tp_eM_some {q : Nat → Bool} {f : Nat → Int32} : ∀ {n d : Nat}, tp_eM q f n = some d → d < n ∧ q d = true ∧ 0 < f d := by
  intro n
  induction n with
  | zero => intro d h; cases h
  | succ n ih =>
    intro d h
    rw [tp_eM] at h
    by_cases z : (q n && decide (0 < f n) && (tp_eM q f n).elim true (fun b => decide (f b < f n))) = true
    · rw [if_pos z] at h
      cases h
      rw [Bool.and_eq_true, Bool.and_eq_true] at z
      exact ⟨by omega, z.1.1, of_decide_eq_true z.1.2⟩
    · rw [if_neg z] at h
      have := ih h
      exact ⟨by omega, this.2⟩
theorem tp_eM_no {q : Nat → Bool} {f : Nat → Int32} {n : Nat} (h : q n = false) : tp_eM q f (n + 1) = tp_eM q f n := by
  rw [tp_eM, h]; rfl
theorem tp_eM_n {q : Nat → Bool} {f : Nat → Int32} {n : Nat} (h : q n = true) (he : tp_eM q f n = none) : tp_eM q f (n + 1) = if 0 < f n then some n else none := by
  rw [tp_eM, he, h]
  by_cases z : 0 < f n
  · rw [if_pos z, decide_eq_true z]; rfl
  · rw [if_neg z, decide_eq_false z]; rfl
theorem tp_eM_s {q : Nat → Bool} {f : Nat → Int32} {n b : Nat} (h : q n = true) (he : tp_eM q f n = some b) : tp_eM q f (n + 1) = if f b < f n then some n else some b := by
  have hb := (tp_eM_some he).2.2
  rw [tp_eM, he, h]
  by_cases z : f b < f n
  · rw [if_pos z]
    show (if (true && decide (0 < f n) && decide (f b < f n)) = true then _ else _) = _
    rw [decide_eq_true z, decide_eq_true (Int32.lt_trans hb z)]; rfl
  · rw [if_neg z]
    show (if (true && decide (0 < f n) && decide (f b < f n)) = true then _ else _) = _
    rw [decide_eq_false z, Bool.and_false]; rfl
theorem tp_eM_none {q : Nat → Bool} {f : Nat → Int32} : ∀ {n : Nat}, tp_eM q f n = none → ∀ d, d < n → q d = true → ¬ 0 < f d := by
  intro n
  induction n with
  | zero => intro _ d hd; omega
  | succ n ih =>
    intro h d hd hq hf
    cases hn : q n with
    | false =>
      rw [tp_eM_no hn] at h
      by_cases e : d = n
      · rw [e, hn] at hq; cases hq
      · exact ih h d (by omega) hq hf
    | true =>
      cases he : tp_eM q f n with
      | some b =>
        rw [tp_eM_s hn he] at h
        by_cases z : f b < f n
        · rw [if_pos z] at h; cases h
        · rw [if_neg z] at h; cases h
      | none =>
        rw [tp_eM_n hn he] at h
        by_cases z : 0 < f n
        · rw [if_pos z] at h; cases h
        · by_cases e : d = n
          · rw [e] at hf; exact z hf
          · exact ih he d (by omega) hq hf
theorem tp_eM_congr {q r : Nat → Bool} {f : Nat → Int32} : ∀ {n : Nat}, (∀ d, d < n → q d = r d) → tp_eM q f n = tp_eM r f n := by
  intro n
  induction n with
  | zero => intro _; rfl
  | succ n ih => intro h; rw [tp_eM, tp_eM, ih (fun d hd => h d (by omega)), h n (by omega)]
theorem tp_eM_ex {q : Nat → Bool} {f : Nat → Int32} {n d : Nat} (hd : d < n) (hq : q d = true) (hf : 0 < f d) : ∃ e, tp_eM q f n = some e := by
  cases h : tp_eM q f n with
  | some e => exact ⟨e, rfl⟩
  | none => exact absurd hf (tp_eM_none h d hd hq)
theorem tp_enc_lt {o : Option Nat} (h : ∀ d, o = some d → d < 2000000) : (tp_enc o = -1 ↔ o = none) ∧ (tp_enc o < 0 ↔ o = none) ∧ (0 ≤ tp_enc o ↔ o ≠ none) := by
  cases o with
  | none => exact ⟨⟨fun _ => rfl, fun _ => rfl⟩, ⟨fun _ => rfl, fun _ => by decide⟩, ⟨fun z => absurd z (by decide), fun z => absurd rfl z⟩⟩
  | some d =>
    have hd := h d rfl
    refine ⟨⟨fun z => absurd z (tp_nI_m hd), fun z => by cases z⟩, ⟨fun z => absurd z (tp_nI_nn hd), fun z => by cases z⟩, ⟨fun _ z => (by cases z), fun _ => Int32.not_lt.mp (tp_nI_nn hd)⟩⟩
def tp_qB (σ : tp_St) (x : Int32) (d : Nat) : Bool := decide (tp_nI d ≠ x) && tp_sy σ d
def tp_qO (σ : tp_St) (c d : Nat) : Bool := !tp_oN σ c d && tp_sy σ d
theorem tp_C_emp {σ : tp_St} (x : Int32) : fC_emptiestBut σ x = some (tp_enc (tp_eM (tp_qB σ x) (tp_fr σ) 12)) := by
  refine tp_acc_loop0 (F := fun n (b : Int32 × Int32) y => fC_emptiestBut_L7 σ x n b.1 b.2 y) (N := 12) (acc := fun i => (tp_enc (tp_eM (tp_qB σ x) (tp_fr σ) i), (tp_eM (tp_qB σ x) (tp_fr σ) i).elim 0 (tp_fr σ))) ?_ ?_
  · show fC_emptiestBut_L7 σ x 1 _ _ (tp_nI 12) = _
    rw [fC_emptiestBut_L7, if_pos (by decide)]
  · intro n i hi
    show fC_emptiestBut_L7 σ x (n + 1) (tp_enc (tp_eM (tp_qB σ x) (tp_fr σ) i)) ((tp_eM (tp_qB σ x) (tp_fr σ) i).elim 0 (tp_fr σ)) (tp_nI i) = fC_emptiestBut_L7 σ x n (tp_enc (tp_eM (tp_qB σ x) (tp_fr σ) (i + 1))) ((tp_eM (tp_qB σ x) (tp_fr σ) (i + 1)).elim 0 (tp_fr σ)) (tp_nI i + 1)
    rw [fC_emptiestBut_L7, if_neg (tp_gd hi)]
    by_cases y : tp_nI i = x
    · rw [if_pos y, tp_eM_no (q := tp_qB σ x) (n := i) (by rw [tp_qB, decide_eq_false (fun z => z y)]; rfl)]
    · rw [if_neg y, tp_C_stays hi, Option.bind_some, tp_if_bI]
      cases hs : tp_sy σ i with
      | false => rw [if_neg (by decide), tp_eM_no (q := tp_qB σ x) (n := i) (by rw [tp_qB, hs, Bool.and_false])]
      | true =>
        have hq : tp_qB σ x i = true := by rw [tp_qB, hs, decide_eq_true y]; rfl
        rw [if_pos rfl, tp_C_free hi, Option.bind_some]
        cases he : tp_eM (tp_qB σ x) (tp_fr σ) i with
        | none =>
          rw [tp_eM_n hq he]
          by_cases z : 0 < tp_fr σ i
          · rw [if_pos z, if_neg (by show ¬ tp_fr σ i ≤ 0; exact Int32.not_le.mpr z)]; rfl
          · rw [if_neg z, if_pos (by show tp_fr σ i ≤ 0; exact Int32.not_lt.mp z)]
        | some b =>
          rw [tp_eM_s hq he]
          by_cases z : tp_fr σ b < tp_fr σ i
          · rw [if_pos z, if_neg (by show ¬ tp_fr σ i ≤ tp_fr σ b; exact Int32.not_le.mpr z)]; rfl
          · rw [if_neg z, if_pos (by show tp_fr σ i ≤ tp_fr σ b; exact Int32.not_lt.mp z)]
theorem tp_eM_12 {q : Nat → Bool} {f : Nat → Int32} {i b : Nat} (hi : i ≤ 12) (h : tp_eM q f i = some b) : b < 12 := by
  have := (tp_eM_some h).1
  omega
theorem tp_M_empT {σ τ : tp_St} (I : tp_Inv σ) (R : tp_Rel tp_noX σ τ) {q : Nat → Bool} {i : Nat} (hi : i < 12) (hq : q i = true) (hf : 0 < tp_fr σ i) {α : Type} (K : Int32 → Option α) :
    (if tp_enc (tp_eM q (tp_fr σ) i) < 0 then K (tp_nI i) else (fM_freeOn τ (tp_nI i)).bind fun a => (fM_freeOn τ (tp_enc (tp_eM q (tp_fr σ) i))).bind fun b => if a ≤ b then K (tp_enc (tp_eM q (tp_fr σ) i)) else K (tp_nI i)) = K (tp_enc (tp_eM q (tp_fr σ) (i + 1))) := by
  cases he : tp_eM q (tp_fr σ) i with
  | none => rw [if_pos (by show (-1 : Int32) < 0; decide), tp_eM_n hq he, if_pos hf]; rfl
  | some b =>
    have hb : b < 12 := tp_eM_12 (by omega) he
    rw [tp_eM_s hq he]
    show (if tp_nI b < 0 then K (tp_nI i) else (fM_freeOn τ (tp_nI i)).bind fun a => (fM_freeOn τ (tp_nI b)).bind fun b' => if a ≤ b' then K (tp_nI b) else K (tp_nI i)) = _
    rw [if_neg (tp_nI_nn (by omega)), tp_M_freeOn I R hi, Option.bind_some, tp_M_freeOn I R hb, Option.bind_some]
    by_cases z : tp_fr σ b < tp_fr σ i
    · rw [if_pos z, if_neg (Int32.not_le.mpr z)]; rfl
    · rw [if_neg z, if_pos (Int32.not_lt.mp z)]; rfl
theorem tp_M_emp1 {σ τ : tp_St} (I : tp_Inv σ) (R : tp_Rel tp_noX σ τ) (x : Int32) : fM_emptiest τ x (-1) = some (tp_enc (tp_eM (tp_qB σ x) (tp_fr σ) 12)) := by
  refine tp_acc_loop0 (F := fun n (b : Int32) y => fM_emptiest_L5 τ x (-1) n b y) (N := 12) (acc := fun i => tp_enc (tp_eM (tp_qB σ x) (tp_fr σ) i)) ?_ ?_
  · show fM_emptiest_L5 τ x (-1) 1 _ (tp_nI 12) = _
    rw [fM_emptiest_L5, if_pos (by decide)]
  · intro n i hi
    show fM_emptiest_L5 τ x (-1) (n + 1) (tp_enc (tp_eM (tp_qB σ x) (tp_fr σ) i)) (tp_nI i) = fM_emptiest_L5 τ x (-1) n (tp_enc (tp_eM (tp_qB σ x) (tp_fr σ) (i + 1))) (tp_nI i + 1)
    rw [fM_emptiest_L5, if_neg (tp_gd hi), tp_M_stays R hi, Option.bind_some, tp_if_bI]
    cases hs : tp_sy σ i with
    | false => rw [if_neg (by decide), tp_eM_no (q := tp_qB σ x) (n := i) (by rw [tp_qB, hs, Bool.and_false])]
    | true =>
      rw [if_pos rfl]
      by_cases y : tp_nI i = x
      · rw [if_pos y, tp_eM_no (q := tp_qB σ x) (n := i) (by rw [tp_qB, decide_eq_false (fun z => z y)]; rfl)]
      · have hq : tp_qB σ x i = true := by rw [tp_qB, hs, decide_eq_true y]; rfl
        rw [if_neg y, tp_M_freeOn I R hi, Option.bind_some]
        by_cases z : 0 < tp_fr σ i
        · rw [if_neg (Int32.not_le.mpr z), if_pos (by decide : (-1 : Int32) < 0)]
          have := tp_M_empT I R hi hq z (fun a => fM_emptiest_L5 τ x (-1) n a (tp_nI i + 1))
          rw [tp_M_freeOn I R hi, Option.bind_some] at this
          exact this
        · rw [if_pos (Int32.not_lt.mp z)]
          cases he : tp_eM (tp_qB σ x) (tp_fr σ) i with
          | none => rw [tp_eM_n hq he, if_neg z]
          | some b => rw [tp_eM_s hq he, if_neg (fun w => z (Int32.lt_trans (tp_eM_some he).2.2 w))]
theorem tp_M_emp2 {σ τ : tp_St} (I : tp_Inv σ) (R : tp_Rel tp_noX σ τ) {c : Nat} (hc : c < 400) : fM_emptiest τ (-1) (tp_nI c) = some (tp_enc (tp_eM (tp_qO σ c) (tp_fr σ) 12)) := by
  refine tp_acc_loop0 (F := fun n (b : Int32) y => fM_emptiest_L5 τ (-1) (tp_nI c) n b y) (N := 12) (acc := fun i => tp_enc (tp_eM (tp_qO σ c) (tp_fr σ) i)) ?_ ?_
  · show fM_emptiest_L5 τ (-1) (tp_nI c) 1 _ (tp_nI 12) = _
    rw [fM_emptiest_L5, if_pos (by decide)]
  · intro n i hi
    show fM_emptiest_L5 τ (-1) (tp_nI c) (n + 1) (tp_enc (tp_eM (tp_qO σ c) (tp_fr σ) i)) (tp_nI i) = fM_emptiest_L5 τ (-1) (tp_nI c) n (tp_enc (tp_eM (tp_qO σ c) (tp_fr σ) (i + 1))) (tp_nI i + 1)
    rw [fM_emptiest_L5, if_neg (tp_gd hi), tp_M_stays R hi, Option.bind_some, tp_if_bI]
    cases hs : tp_sy σ i with
    | false => rw [if_neg (by decide), tp_eM_no (q := tp_qO σ c) (n := i) (by rw [tp_qO, hs, Bool.and_false])]
    | true =>
      rw [if_pos rfl, if_neg (tp_nI_m (by omega)), tp_M_freeOn I R hi, Option.bind_some]
      by_cases z : 0 < tp_fr σ i
      · rw [if_neg (Int32.not_le.mpr z), if_neg (tp_nI_nn (by omega)), tp_M_isOn I R hc hi, Option.bind_some, tp_if_bI]
        cases ho : tp_oN σ c i with
        | true => rw [if_pos rfl, tp_eM_no (q := tp_qO σ c) (n := i) (by rw [tp_qO, ho]; rfl)]
        | false =>
          have hq : tp_qO σ c i = true := by rw [tp_qO, hs, ho]; rfl
          rw [if_neg (by decide)]
          have := tp_M_empT I R hi hq z (fun a => fM_emptiest_L5 τ (-1) (tp_nI c) n a (tp_nI i + 1))
          rw [tp_M_freeOn I R hi, Option.bind_some] at this
          exact this
      · rw [if_pos (Int32.not_lt.mp z)]
        cases ho : tp_oN σ c i with
        | true => rw [tp_eM_no (q := tp_qO σ c) (n := i) (by rw [tp_qO, ho]; rfl)]
        | false =>
          have hq : tp_qO σ c i = true := by rw [tp_qO, hs, ho]; rfl
          cases he : tp_eM (tp_qO σ c) (tp_fr σ) i with
          | none => rw [tp_eM_n hq he, if_neg z]
          | some b => rw [tp_eM_s hq he, if_neg (fun w => z (Int32.lt_trans (tp_eM_some he).2.2 w))]
def tp_cP (q : Nat → Bool) (f : Nat → Int32) : Nat → Int32 × Int32
  | 0 => (0, 0)
  | n + 1 => if q n then ((tp_cP q f n).1 + f n, if (tp_cP q f n).2 < f n then f n else (tp_cP q f n).2) else tp_cP q f n
def tp_cap (q : Nat → Bool) (f : Nat → Int32) : Int32 := if (tp_cP q f 12).1 - (tp_cP q f 12).2 < (tp_cP q f 12).1 / 2 then (tp_cP q f 12).1 - (tp_cP q f 12).2 else (tp_cP q f 12).1 / 2
theorem tp_C_cap {σ : tp_St} (x : Int32) : fC_capacityWithout σ x = some (tp_cap (tp_qB σ x) (σ 0)) := by
  refine tp_acc_loop0 (F := fun n (b : Int32 × Int32) y => fC_capacityWithout_L7 σ x n b.1 b.2 y) (N := 12) (acc := fun i => tp_cP (tp_qB σ x) (σ 0) i) ?_ ?_
  · show fC_capacityWithout_L7 σ x 1 _ _ (tp_nI 12) = _
    rw [fC_capacityWithout_L7, if_pos (by decide)]; rfl
  · intro n i hi
    show fC_capacityWithout_L7 σ x (n + 1) _ _ (tp_nI i) = fC_capacityWithout_L7 σ x n (tp_cP (tp_qB σ x) (σ 0) (i + 1)).1 (tp_cP (tp_qB σ x) (σ 0) (i + 1)).2 (tp_nI i + 1)
    rw [fC_capacityWithout_L7, if_neg (tp_gd hi), tp_cP]
    by_cases y : tp_nI i = x
    · rw [if_pos y, if_neg (show ¬ tp_qB σ x i = true by rw [tp_qB, decide_eq_false (fun z => z y), Bool.false_and]; decide)]
    · rw [if_neg y, tp_C_stays hi, Option.bind_some, tp_if_bI]
      cases hs : tp_sy σ i with
      | false => rw [if_neg (by decide), if_neg (show ¬ tp_qB σ x i = true by rw [tp_qB, hs, Bool.and_false]; decide)]
      | true => rw [if_pos rfl, if_pos (show tp_qB σ x i = true by rw [tp_qB, hs, decide_eq_true (show tp_nI i ≠ x from y)]; rfl), if_neg (tp_bd hi), tp_td hi]
theorem tp_M_cap {σ τ : tp_St} (R : tp_Rel tp_noX σ τ) (x : Int32) : fM_capacity τ x = some (tp_cap (tp_qB σ x) (σ 0)) := by
  refine tp_acc_loop0 (F := fun n (b : Int32 × Int32) y => fM_capacity_L7 τ x n b.1 b.2 y) (N := 12) (acc := fun i => tp_cP (tp_qB σ x) (σ 0) i) ?_ ?_
  · show fM_capacity_L7 τ x 1 _ _ (tp_nI 12) = _
    rw [fM_capacity_L7, if_pos (by decide), tp_cap]
    by_cases z : (tp_cP (tp_qB σ x) (σ 0) 12).1 - (tp_cP (tp_qB σ x) (σ 0) 12).2 < (tp_cP (tp_qB σ x) (σ 0) 12).1 / 2
    · rw [if_pos z, if_pos (Int32.le_of_lt z)]
    · rw [if_neg z]
      by_cases w : (tp_cP (tp_qB σ x) (σ 0) 12).1 - (tp_cP (tp_qB σ x) (σ 0) 12).2 ≤ (tp_cP (tp_qB σ x) (σ 0) 12).1 / 2
      · rw [if_pos w, Int32.le_antisymm w (Int32.not_lt.mp z)]
      · rw [if_neg w]
  · intro n i hi
    show fM_capacity_L7 τ x (n + 1) _ _ (tp_nI i) = fM_capacity_L7 τ x n (tp_cP (tp_qB σ x) (σ 0) (i + 1)).1 (tp_cP (tp_qB σ x) (σ 0) (i + 1)).2 (tp_nI i + 1)
    rw [fM_capacity_L7, if_neg (tp_gd hi), tp_M_stays R hi, Option.bind_some, tp_if_bI, tp_cP]
    cases hs : tp_sy σ i with
    | false => rw [if_neg (by decide), if_neg (show ¬ tp_qB σ x i = true by rw [tp_qB, hs, Bool.and_false]; decide)]
    | true =>
      rw [if_pos rfl]
      by_cases y : tp_nI i = x
      · rw [if_pos y, if_neg (show ¬ tp_qB σ x i = true by rw [tp_qB, decide_eq_false (fun z => z y), Bool.false_and]; decide)]
      · rw [if_neg y, if_neg (tp_bd hi), tp_td hi, R.pl hi, if_pos (show tp_qB σ x i = true by rw [tp_qB, hs, decide_eq_true (show tp_nI i ≠ x from y)]; rfl)]
        by_cases z : (tp_cP (tp_qB σ x) (σ 0) i).2 < σ 0 i
        · rw [if_neg (Int32.not_le.mpr z), if_pos z]
        · rw [if_pos (Int32.not_lt.mp z), if_neg z]
def tp_cw (σ : tp_St) (k : Nat) : Nat := tp_cntF (fun c => decide (σ 3 c ≠ 0) && decide (tp_nc σ c = k)) 400
def tp_al (σ : tp_St) : Nat := tp_cntF (fun c => decide (σ 3 c ≠ 0)) 400
theorem tp_C_cw {σ : tp_St} {k : Nat} (hk : k < 3) : fC_chunksWith σ (tp_nI k) = some (tp_nI (tp_cw σ k)) :=
  tp_cnt_loop (F := fun n a x => fC_chunksWith_L4 σ (tp_nI k) n a x) (N := 400) (p := fun c => decide (σ 3 c ≠ 0) && decide (tp_nc σ c = k)) (by rw [fC_chunksWith_L4, if_pos (by decide)]; rfl) (fun n i a hi => by
    show fC_chunksWith_L4 σ (tp_nI k) (n + 1) a (tp_nI i) = fC_chunksWith_L4 σ (tp_nI k) n _ (tp_nI i + 1)
    rw [fC_chunksWith_L4, if_neg (tp_g4 hi), if_neg (tp_b4 hi), tp_t4 hi]
    by_cases y : σ 3 i = 0
    · rw [if_pos y, decide_eq_false (fun z => z y)]; rfl
    · have := tp_nc_lt σ i
      rw [if_neg y, decide_eq_true y, tp_C_copies hi, Option.bind_some, Bool.true_and]
      by_cases z : tp_nc σ i = k
      · rw [decide_eq_true z, z, if_pos rfl]; rfl
      · rw [decide_eq_false z, if_neg (fun w => z ((tp_nI_eq (by omega) (by omega)).mp w))]; rfl)
theorem tp_M_cw {X : Nat → Prop} {σ τ : tp_St} (I : tp_Inv σ) (R : tp_Rel X σ τ) {k : Nat} (hk : k < 3) : fM_countWith τ (tp_nI k) = some (tp_nI (tp_cw σ k)) :=
  tp_cnt_loop (F := fun n a x => fM_countWith_L4 τ (tp_nI k) n a x) (N := 400) (p := fun c => decide (σ 3 c ≠ 0) && decide (tp_nc σ c = k)) (by rw [fM_countWith_L4, if_pos (by decide)]; rfl) (fun n i a hi => by
    show fM_countWith_L4 τ (tp_nI k) (n + 1) a (tp_nI i) = fM_countWith_L4 τ (tp_nI k) n _ (tp_nI i + 1)
    rw [fM_countWith_L4, if_neg (tp_g4 hi), if_neg (tp_b4 hi), tp_t4 hi, R.th hi]
    by_cases y : σ 3 i = 0
    · rw [if_pos y, decide_eq_false (fun z => z y)]; rfl
    · have := tp_nc_lt σ i
      rw [if_neg y, decide_eq_true y, tp_M_howMany I R hi, Option.bind_some, Bool.true_and]
      by_cases z : tp_nc σ i = k
      · rw [decide_eq_true z, z, if_pos rfl]; rfl
      · rw [decide_eq_false z, if_neg (fun w => z ((tp_nI_eq (by omega) (by omega)).mp w))]; rfl)
theorem tp_C_al {σ : tp_St} : fC_allChunks σ = some (tp_nI (tp_al σ)) :=
  tp_cnt_loop (F := fun n a x => fC_allChunks_L4 σ n a x) (N := 400) (p := fun c => decide (σ 3 c ≠ 0)) (by rw [fC_allChunks_L4, if_pos (by decide)]; rfl) (fun n i a hi => by
    show fC_allChunks_L4 σ (n + 1) a (tp_nI i) = fC_allChunks_L4 σ n _ (tp_nI i + 1)
    rw [fC_allChunks_L4, if_neg (tp_g4 hi), if_neg (tp_b4 hi), tp_t4 hi]
    by_cases y : σ 3 i = 0
    · rw [if_pos y, decide_eq_false (fun z => z y)]; rfl
    · rw [if_neg y, decide_eq_true y]; rfl)
theorem tp_al_cw (σ : tp_St) : tp_al σ = tp_cw σ 0 + tp_cw σ 1 + tp_cw σ 2 := by
  unfold tp_al tp_cw
  show tp_sumF _ 400 = tp_sumF _ 400 + tp_sumF _ 400 + tp_sumF _ 400
  rw [← tp_sumF_add, ← tp_sumF_add]
  refine tp_sumF_congr (fun i _ => ?_)
  have := tp_nc_lt σ i
  by_cases y : σ 3 i = 0
  · show (decide (σ 3 i ≠ 0)).toNat = (decide (σ 3 i ≠ 0) && decide (tp_nc σ i = 0)).toNat + (decide (σ 3 i ≠ 0) && decide (tp_nc σ i = 1)).toNat + (decide (σ 3 i ≠ 0) && decide (tp_nc σ i = 2)).toNat
    rw [decide_eq_false (show ¬ σ 3 i ≠ 0 from fun z => z y)]; rfl
  · show (decide (σ 3 i ≠ 0)).toNat = (decide (σ 3 i ≠ 0) && decide (tp_nc σ i = 0)).toNat + (decide (σ 3 i ≠ 0) && decide (tp_nc σ i = 1)).toNat + (decide (σ 3 i ≠ 0) && decide (tp_nc σ i = 2)).toNat
    rw [decide_eq_true (show σ 3 i ≠ 0 from y)]
    rcases (show tp_nc σ i = 0 ∨ tp_nc σ i = 1 ∨ tp_nc σ i = 2 from by omega) with h | h | h <;> rw [h] <;> rfl
theorem tp_M_al {X : Nat → Prop} {σ τ : tp_St} (I : tp_Inv σ) (R : tp_Rel X σ τ) : fM_chunkCount τ = some (tp_nI (tp_al σ)) := by
  rw [fM_chunkCount, show fM_countWith τ 0 = _ from tp_M_cw I R (k := 0) (by omega), Option.bind_some, show fM_countWith τ 1 = _ from tp_M_cw I R (k := 1) (by omega), Option.bind_some, show fM_countWith τ 2 = _ from tp_M_cw I R (k := 2) (by omega), Option.bind_some, tp_al_cw, tp_nI_add, tp_nI_add]
def tp_lS (σ : tp_St) : Nat → Int32
  | 0 => 0
  | n + 1 => if σ 2 n = 0 then tp_lS σ n else tp_lS σ n + σ 1 n
theorem tp_C_col {σ : tp_St} : fC_copiesOnLeaving σ = some (tp_lS σ 12) := by
  refine tp_acc_loop0 (F := fun n (b : Int32) y => fC_copiesOnLeaving_L4 σ n b y) (N := 12) (acc := fun i => tp_lS σ i) ?_ ?_
  · show fC_copiesOnLeaving_L4 σ 1 _ (tp_nI 12) = _
    rw [fC_copiesOnLeaving_L4, if_pos (by decide)]
  · intro n i hi
    show fC_copiesOnLeaving_L4 σ (n + 1) (tp_lS σ i) (tp_nI i) = fC_copiesOnLeaving_L4 σ n (tp_lS σ (i + 1)) (tp_nI i + 1)
    rw [fC_copiesOnLeaving_L4, if_neg (tp_gd hi), if_neg (tp_bd hi), tp_td hi, tp_lS]
    by_cases y : σ 2 i = 0
    · rw [if_pos y, if_pos y]
    · rw [if_neg y, if_neg y]
theorem tp_C_dt {σ : tp_St} : fC_disksThere σ = some (tp_nI (tp_cntF (tp_th σ) 12)) :=
  tp_cnt_loop (F := fun n a x => fC_disksThere_L4 σ n a x) (N := 12) (p := tp_th σ) (by rw [fC_disksThere_L4, if_pos (by decide)]) (fun n i a hi => by
    show fC_disksThere_L4 σ (n + 1) a (tp_nI i) = fC_disksThere_L4 σ n _ (tp_nI i + 1)
    rw [fC_disksThere_L4, if_neg (tp_gd hi), tp_C_isThere hi, Option.bind_some, tp_if_bI]
    cases tp_th σ i <;> rfl)
theorem tp_Inv.lv {σ : tp_St} (I : tp_Inv σ) {d : Nat} (hd : d < 12) (h : σ 2 d ≠ 0) : 0 < σ 0 d ∧ σ 2 d = 1 ∧ 0 < tp_cn σ d := by
  rcases I.2.2.1 d hd with h1 | ⟨h1, h2⟩
  · exact absurd h1 h
  · obtain ⟨P, h3, h4, h5⟩ := I.1 d hd
    exact ⟨by rw [h4]; exact (tp_nI_pos (by omega)).mpr (by omega), h1, h2⟩
theorem tp_M_countL {σ τ : tp_St} (I : tp_Inv σ) (R : tp_Rel tp_noX σ τ) (x : Int32) : fM_count_L35 x 13 0 0 0 τ = fM_count_L35 x 1 (tp_nI (tp_cntF (tp_th σ) 12)) (tp_lS σ 12) (tp_nI 12) τ := by
  refine tp_acc_loop0 (F := fun n (b : Int32 × Int32) y => fM_count_L35 x n b.1 b.2 y τ) (N := 12) (acc := fun i => (tp_nI (tp_cntF (tp_th σ) i), tp_lS σ i)) rfl ?_
  intro n i hi
  show fM_count_L35 x (n + 1) (tp_nI (tp_cntF (tp_th σ) i)) (tp_lS σ i) (tp_nI i) τ = fM_count_L35 x n (tp_nI (tp_cntF (tp_th σ) i + (tp_th σ i).toNat)) (tp_lS σ (i + 1)) (tp_nI i + 1) τ
  rw [fM_count_L35, if_neg (tp_gd hi), if_neg (tp_bd hi), tp_td hi, R.pl hi, tp_lS, tp_th]
  by_cases z : 0 < σ 0 i
  · rw [if_neg (Int32.not_le.mpr z), if_neg (Int32.not_le.mpr z), (R.1 i hi).2 z, decide_eq_true z, tp_M_used I R hi, Option.bind_some, I.2.1 i hi, tp_nI_s]
    by_cases y : σ 2 i = 0
    · rw [if_pos y, if_pos y]; rfl
    · rw [if_neg y, if_neg y]; rfl
  · have y : σ 2 i = 0 := by
      by_cases w : σ 2 i = 0
      · exact w
      · exact absurd (I.lv hi w).1 z
    rw [if_pos (Int32.not_lt.mp z), if_pos (Int32.not_lt.mp z), decide_eq_false z, if_pos y]; rfl
end
section
def tp_pl (σ : tp_St) (d : Nat) : Nat := (σ 0 d).toNatClampNeg
theorem tp_Inv.pl {σ : tp_St} (I : tp_Inv σ) {d : Nat} (hd : d < 12) : σ 0 d = tp_nI (tp_pl σ d) ∧ tp_pl σ d ≤ 200 ∧ tp_cn σ d ≤ tp_pl σ d := by
  obtain ⟨P, h1, h2, h3⟩ := I.1 d hd
  have h4 : tp_pl σ d = P := by rw [tp_pl, h2, tp_nI_t (by omega)]
  rw [h4]; exact ⟨h2, h1, h3⟩
theorem tp_frN {σ : tp_St} (I : tp_Inv σ) {d : Nat} (hd : d < 12) : tp_fr σ d = tp_nI (tp_pl σ d - tp_cn σ d) := by
  obtain ⟨h1, h2, h3⟩ := I.pl hd
  rw [tp_fr, h1, I.2.1 d hd]
  exact (Int32.ofNat_sub _ _ h3).symm
theorem tp_fr_pos {σ : tp_St} (I : tp_Inv σ) {d : Nat} (hd : d < 12) : 0 < tp_fr σ d ↔ tp_cn σ d < tp_pl σ d := by
  obtain ⟨h1, h2, h3⟩ := I.pl hd
  rw [tp_frN I hd, tp_nI_pos (by omega)]
  omega
theorem tp_pl_pos {σ : tp_St} (I : tp_Inv σ) {d : Nat} (hd : d < 12) : 0 < σ 0 d ↔ 0 < tp_pl σ d := by
  obtain ⟨h1, h2, h3⟩ := I.pl hd
  rw [h1, tp_nI_pos (by omega)]
theorem tp_sy_iff {σ : tp_St} {d : Nat} : tp_sy σ d = true ↔ 0 < σ 0 d ∧ σ 2 d = 0 := by rw [tp_sy, Bool.and_eq_true, decide_eq_true_eq, decide_eq_true_eq]
theorem tp_oN_ex {σ : tp_St} (I : tp_Inv σ) {c d : Nat} (hc : c < 400) (hd : d < 12) (h : tp_oN σ c d = true) : σ 3 c = 1 := by
  rcases I.2.2.2 c hc with ⟨h0, h1, h2⟩ | ⟨h1, _⟩
  · rw [tp_oN, h1, h2, decide_eq_false (tp_nI_m' (i := d) (by omega))] at h; cases h
  · exact h1
def tp_Pt (σ σ' : tp_St) (c : Nat) (l g : Int32) (d : Nat) (x : Int32) : Prop :=
  (∀ k, σ' 4 k = if k = c then l else σ 4 k) ∧ (∀ k, σ' 5 k = if k = c then g else σ 5 k) ∧ (∀ k, σ' 1 k = if k = d then x else σ 1 k) ∧ σ' 0 = σ 0 ∧ σ' 2 = σ 2 ∧ σ' 3 = σ 3 ∧ σ' 6 = σ 6 ∧ σ' 7 = σ 7
theorem tp_Pt3 {σ : tp_St} {c d : Nat} {x y z : Int32} : tp_Pt σ (tp_up (tp_up (tp_up σ 4 c x) 5 c y) 1 d z) c x y d z := ⟨fun _ => rfl, fun _ => rfl, fun _ => rfl, rfl, rfl, rfl, rfl, rfl⟩
theorem tp_Pt2 {σ : tp_St} {c d : Nat} {x z : Int32} (h : σ 5 c = -1) : tp_Pt σ (tp_up (tp_up σ 4 c x) 1 d z) c x (-1) d z := ⟨fun _ => rfl, fun k => by
  show σ 5 k = if k = c then -1 else σ 5 k
  by_cases e : k = c
  · rw [if_pos e, e, h]
  · rw [if_neg e], fun _ => rfl, rfl, rfl, rfl, rfl, rfl⟩
theorem tp_Pt.oN {σ σ' : tp_St} {c d : Nat} {l g x : Int32} (h : tp_Pt σ σ' c l g d x) (c' e : Nat) : tp_oN σ' c' e = if c' = c then (decide (l = tp_nI e) || decide (g = tp_nI e)) else tp_oN σ c' e := by
  show (decide (σ' 4 c' = tp_nI e) || decide (σ' 5 c' = tp_nI e)) = _
  rw [h.1, h.2.1]
  by_cases z : c' = c
  · rw [if_pos z, if_pos z, if_pos z]
  · rw [if_neg z, if_neg z, if_neg z]; rfl
theorem tp_Pt.cn {σ σ' : tp_St} {c d : Nat} {l g x : Int32} (h : tp_Pt σ σ' c l g d x) (hc : c < 400) (e : Nat) : tp_cn σ' e + (tp_oN σ c e).toNat = tp_cn σ e + (decide (l = tp_nI e) || decide (g = tp_nI e)).toNat := by
  have := tp_sumF_upd (f := fun i => (tp_oN σ' i e).toNat) (g := fun i => (tp_oN σ i e).toNat) (n := 400) hc (fun i _ hne => by show (tp_oN σ' i e).toNat = (tp_oN σ i e).toNat; rw [h.oN i e, if_neg hne])
  have k := h.oN c e
  rw [if_pos rfl] at k
  rw [← k]; exact this
theorem tp_Pt.rel {σ σ' : tp_St} {c d : Nat} {l g x : Int32} (h : tp_Pt σ σ' c l g d x) {X : Nat → Prop} {τ : tp_St} (R : tp_Rel X σ τ) {m : Int32} (hm : m = tp_mK l g) : tp_Rel X σ' (tp_up τ 4 c m) := by
  obtain ⟨h1, h2, h3, h4, h5, h6, h7, h8⟩ := h
  refine ⟨fun e he => ?_, fun k hk => ?_, fun k hk => ?_, ?_⟩
  · rw [h4, h5]; exact R.1 e he
  · refine ⟨by rw [h6]; exact R.th hk, ?_⟩
    show (if k = c then m else τ 4 k) = _
    rw [h1, h2]
    by_cases e : k = c
    · rw [if_pos e, if_pos e, if_pos e, hm]
    · rw [if_neg e, if_neg e, if_neg e]; exact R.cp hk
  · rw [h7]; exact R.2.2.1 k hk
  · rw [h8]; exact R.2.2.2
theorem tp_Rel.mono {X Y : Nat → Prop} {σ τ : tp_St} (R : tp_Rel X σ τ) (h : ∀ d, d < 12 → X d → Y d) : tp_Rel Y σ τ :=
  ⟨fun d hd => ⟨(R.1 d hd).1.imp id (fun z => ⟨h d hd z.1, z.2⟩), (R.1 d hd).2⟩, R.2⟩
theorem tp_VV.other {l g : Int32} (h : tp_VV l g) : tp_VV g (-1) := by
  rcases h with ⟨_, h⟩ | ⟨a, ha, _, h⟩ | ⟨a, b, h1, h2, _, h⟩
  · exact .inl ⟨h, rfl⟩
  · exact .inl ⟨h, rfl⟩
  · exact .inr (.inl ⟨b, h2, h, rfl⟩)
theorem tp_VV.left {l g : Int32} (h : tp_VV l g) : tp_VV l (-1) := by
  rcases h with ⟨h, _⟩ | ⟨a, ha, h, _⟩ | ⟨a, b, h1, h2, h, _⟩
  · exact .inl ⟨h, rfl⟩
  · exact .inr (.inl ⟨a, ha, h, rfl⟩)
  · exact .inr (.inl ⟨a, by omega, h, rfl⟩)
theorem tp_nc_g {σ : tp_St} {c : Nat} (h : tp_VV (σ 4 c) (σ 5 c)) (hn : tp_nc σ c < 2) : σ 5 c = -1 := by
  rw [tp_nc] at hn
  rcases h with ⟨_, h⟩ | ⟨a, ha, _, h⟩ | ⟨a, b, h1, h2, h3, h4⟩
  · exact h
  · exact h
  · rw [h3, h4, if_neg (tp_nI_m (by omega)), if_neg (tp_nI_m (by omega))] at hn; omega
theorem tp_add_pick {σ : tp_St} {c d : Nat} (hV : tp_VV (σ 4 c) (σ 5 c)) (hc : c < 400) (hd : d < 12) (h5 : σ 5 c = -1) (ho : tp_oN σ c d = false) :
    ∃ σ' l g, fC_addCopy σ (tp_nI c) (tp_nI d) = some σ' ∧ tp_Pt σ σ' c l g d (σ 1 d + 1) ∧ tp_VV l g ∧ tp_mK l g = tp_mK (σ 4 c) (σ 5 c) + tp_bt (tp_nI d) ∧ ∀ e, e < 12 → (decide (l = tp_nI e) || decide (g = tp_nI e)) = (tp_oN σ c e || decide (e = d)) := by
  rw [fC_addCopy, if_neg (tp_b4 hc), tp_t4 hc, if_neg (tp_bd hd), if_neg (tp_bd hd), tp_td hd]
  have hne : ∀ e, e < 12 → decide ((-1 : Int32) = tp_nI e) = false := fun e he => decide_eq_false (tp_nI_m' (by omega))
  have hdd : ∀ e, e < 12 → decide (tp_nI d = tp_nI e) = decide (e = d) := fun e he => decide_eq_decide.mpr ⟨fun z => ((tp_nI_eq (by omega) (by omega)).mp z).symm, fun z => by rw [z]⟩
  rcases hV with ⟨h, _⟩ | ⟨a, ha, h, _⟩ | ⟨a, b, h1, h2, _, h⟩
  · rw [if_pos h]
    refine ⟨_, tp_nI d, -1, rfl, tp_Pt2 h5, .inr (.inl ⟨d, hd, rfl, rfl⟩), ?_, fun e he => ?_⟩
    · rw [h, h5, tp_mK, tp_mK, tp_bt_m, Int32.add_zero, Int32.zero_add]; exact (Int32.zero_add _).symm
    · rw [tp_oN, h, h5, hne e he, hdd e he, Bool.or_false, Bool.or_false, Bool.false_or]
  · have had : a ≠ d := fun z => by
      rw [tp_oN, h, z, decide_eq_true rfl] at ho; cases ho
    have hae : ∀ e, e < 12 → decide (tp_nI a = tp_nI e) = decide (e = a) := fun e he => decide_eq_decide.mpr ⟨fun z => ((tp_nI_eq (by omega) (by omega)).mp z).symm, fun z => by rw [z]⟩
    rw [if_neg (by rw [h]; exact tp_nI_m (by omega)), h]
    rcases Nat.lt_or_gt_of_ne had with z | z
    · rw [if_neg (fun w => absurd ((tp_nI_lt (by omega) (by omega)).mp w) (by omega)), if_pos ((tp_nI_lt (by omega) (by omega)).mpr z)]
      refine ⟨_, tp_nI a, tp_nI d, rfl, tp_Pt3, .inr (.inr ⟨a, d, z, hd, rfl, rfl⟩), ?_, fun e he => ?_⟩
      · rw [h5, tp_mK, tp_mK, tp_bt_m, Int32.add_zero]
      · rw [tp_oN, h, h5, hne e he, Bool.or_false, hdd e he]
    · rw [if_pos ((tp_nI_lt (by omega) (by omega)).mpr z), if_neg (fun w => absurd ((tp_nI_lt (by omega) (by omega)).mp w) (by omega))]
      refine ⟨_, tp_nI d, tp_nI a, rfl, tp_Pt3, .inr (.inr ⟨d, a, z, ha, rfl, rfl⟩), ?_, fun e he => ?_⟩
      · rw [h5, tp_mK, tp_mK, tp_bt_m, Int32.add_zero]; exact Int32.add_comm _ _
      · rw [tp_oN, h, h5, hne e he, Bool.or_false, hdd e he, Bool.or_comm]
  · rw [h] at h5; exact absurd h5 (tp_nI_m (by omega))
theorem tp_add_spec {σ : tp_St} {c d : Nat} (I : tp_Inv σ) (hc : c < 400) (hd : d < 12) (h3 : σ 3 c = 1) (hn : tp_nc σ c < 2) (ho : tp_oN σ c d = false) (hf : tp_cn σ d < tp_pl σ d) :
    ∃ σ', fC_addCopy σ (tp_nI c) (tp_nI d) = some σ' ∧ tp_Inv σ' ∧ (∀ c' e, e < 12 → tp_oN σ' c' e = (tp_oN σ c' e || (decide (c' = c) && decide (e = d)))) ∧
      (σ' 0 = σ 0 ∧ σ' 2 = σ 2 ∧ σ' 3 = σ 3 ∧ σ' 6 = σ 6 ∧ σ' 7 = σ 7) ∧ (∀ e, e < 12 → tp_cn σ' e = tp_cn σ e + (decide (e = d)).toNat) ∧ ∀ X τ, tp_Rel X σ τ → tp_Rel X σ' (tp_up τ 4 c (τ 4 c + tp_bt (tp_nI d))) := by
  obtain ⟨σ', l, g, e1, hP, hV, hm, hO⟩ := tp_add_pick (I.vv hc) hc hd (tp_nc_g (I.vv hc) hn) ho
  have hcn : ∀ e, e < 12 → tp_cn σ' e = tp_cn σ e + (decide (e = d)).toNat := by
    intro e he
    have k := hP.cn hc e
    rw [hO e he] at k
    by_cases z : e = d
    · rw [z, ho, decide_eq_true rfl] at k
      rw [z, decide_eq_true rfl]
      have t1 : (true).toNat = 1 := rfl
      have t2 : (false).toNat = 0 := rfl
      have t3 : (false || true).toNat = 1 := rfl
      omega
    · rw [decide_eq_false z, Bool.or_false] at k
      rw [decide_eq_false z]
      have t2 : (false).toNat = 0 := rfl
      omega
  have hP' := hP
  obtain ⟨p4, p5, p1, p0, p2, p3, p6, p7⟩ := hP'
  refine ⟨σ', e1, ⟨fun e he => ?_, fun e he => ?_, fun e he => ?_, fun k hk => ?_⟩, fun c' e he => ?_, ⟨p0, p2, p3, p6, p7⟩, hcn, fun X τ R => ?_⟩
  · obtain ⟨h1, h2, h4⟩ := I.pl he
    refine ⟨tp_pl σ e, h2, by rw [p0]; exact h1, ?_⟩
    rw [hcn e he]
    by_cases z : e = d
    · rw [z, decide_eq_true rfl]; exact hf
    · rw [decide_eq_false z, show (false).toNat = 0 from rfl, Nat.add_zero]; exact h4
  · rw [p1, hcn e he]
    by_cases z : e = d
    · rw [if_pos z, z, decide_eq_true rfl, I.2.1 d hd]; exact tp_nI_s _
    · rw [if_neg z, decide_eq_false z, show (false).toNat = 0 from rfl, Nat.add_zero]; exact I.2.1 e he
  · rw [p2]
    exact (I.2.2.1 e he).imp id (fun z => ⟨z.1, by rw [hcn e he]; omega⟩)
  · rw [p3, p4, p5]
    by_cases z : k = c
    · rw [if_pos z, if_pos z, z]; exact .inr ⟨h3, hV⟩
    · rw [if_neg z, if_neg z]; exact I.2.2.2 k hk
  · rw [hP.oN c' e]
    by_cases z : c' = c
    · rw [if_pos z, hO e he, z, decide_eq_true rfl, Bool.true_and]
    · rw [if_neg z, decide_eq_false z, Bool.false_and, Bool.or_false]
  · exact hP.rel R (by rw [R.cp hc, hm])
theorem tp_vn0 : vp_nar .boolean 0 = 0 := by decide +kernel
theorem tp_vn1 : vp_nar .boolean 1 = 1 := by decide +kernel
def tp_gone (σ : tp_St) (d : Nat) : tp_St := tp_up (tp_up σ 0 d 0) 2 d 0
theorem tp_C_takeAway {σ : tp_St} {d : Nat} (hd : d < 12) : fC_takeAway σ (tp_nI d) = some (tp_gone σ d) := by rw [fC_takeAway, if_neg (tp_bd hd), tp_td hd, tp_vn0]; rfl
theorem tp_C_hasLeft {σ : tp_St} {d : Nat} (hd : d < 12) : fC_hasLeft σ (tp_nI d) = some (tp_bI (decide (σ 2 d ≠ 0) && decide (σ 1 d = 0))) := by
  rw [fC_hasLeft, if_neg (tp_bd hd), tp_td hd]
  by_cases y : σ 2 d = 0
  · rw [if_pos y, decide_eq_false (fun z => z y)]; rfl
  · rw [if_neg y, decide_eq_true y]
    by_cases z : σ 1 d = 0
    · rw [if_pos z, decide_eq_true z]; rfl
    · rw [if_neg z, decide_eq_false z]; rfl
theorem tp_ot_V {σ : tp_St} {c d : Nat} (h : tp_VV (σ 4 c) (σ 5 c)) (hd : d < 12) (ho : tp_oN σ c d = true) :
    tp_VV (tp_ot σ c d) (-1) ∧ tp_mK (tp_ot σ c d) (-1) = tp_mK (σ 4 c) (σ 5 c) - tp_bt (tp_nI d) ∧ ∀ e, e < 12 → (decide (tp_ot σ c d = tp_nI e) || decide ((-1 : Int32) = tp_nI e)) = (tp_oN σ c e && !decide (e = d)) := by
  have hne : ∀ e, e < 12 → decide ((-1 : Int32) = tp_nI e) = false := fun e he => decide_eq_false (tp_nI_m' (by omega))
  have hee : ∀ a e, a < 12 → e < 12 → decide (tp_nI a = tp_nI e) = decide (e = a) := fun a e ha he => decide_eq_decide.mpr ⟨fun z => ((tp_nI_eq (by omega) (by omega)).mp z).symm, fun z => by rw [z]⟩
  have hq : ∀ x : Int32, tp_mK x (-1) = tp_bt x := fun x => by rw [tp_mK, tp_bt_m, Int32.add_zero]
  by_cases z : σ 4 c = tp_nI d
  · have e1 : tp_ot σ c d = σ 5 c := if_pos z
    rw [e1]
    refine ⟨h.other, ?_, fun e he => ?_⟩
    · rw [hq, z, tp_mK, Int32.add_comm, Int32.add_sub_cancel]
    · rw [hne e he, Bool.or_false, tp_oN, z, hee d e hd he]
      by_cases w : e = d
      · rw [w, decide_eq_true rfl]
        rcases h with ⟨h1, h2⟩ | ⟨a, ha, h1, h2⟩ | ⟨a, b, h1, h2, h3, h4⟩
        · rw [h2, hne d hd]; rfl
        · rw [h2, hne d hd]; rfl
        · have : a = d := (tp_nI_eq (by omega) (by omega)).mp (h3.symm.trans z)
          rw [h4, decide_eq_false (fun w => absurd ((tp_nI_eq (by omega) (by omega)).mp w) (by omega))]; rfl
      · rw [decide_eq_false w, Bool.false_or]; exact (Bool.and_true _).symm
  · have e1 : tp_ot σ c d = σ 4 c := if_neg z
    have z5 : σ 5 c = tp_nI d := by
      rw [tp_oN, decide_eq_false z, Bool.false_or, decide_eq_true_eq] at ho; exact ho
    rw [e1]
    refine ⟨h.left, ?_, fun e he => ?_⟩
    · rw [hq, z5, tp_mK, Int32.add_sub_cancel]
    · rw [hne e he, Bool.or_false, tp_oN, z5, hee d e hd he]
      by_cases w : e = d
      · rw [w, decide_eq_true rfl, decide_eq_false z]; rfl
      · rw [decide_eq_false w, Bool.or_false]; exact (Bool.and_true _).symm
theorem tp_Rel.gone {X : Nat → Prop} {σ τ : tp_St} {d : Nat} (R : tp_Rel X σ τ) (hd : d < 12) (hX : X d) (h0 : 0 < σ 0 d) (h2 : σ 2 d ≠ 0) : tp_Rel X (tp_gone σ d) τ := by
  refine ⟨fun e he => ?_, R.2⟩
  show (τ 1 e = (if e = d then 0 else σ 0 e) ∨ (X e ∧ (if e = d then 0 else σ 0 e) = 0 ∧ 0 < τ 1 e ∧ τ 2 e ≠ 0)) ∧ (0 < (if e = d then 0 else σ 0 e) → τ 2 e = (if e = d then 0 else σ 2 e))
  by_cases z : e = d
  · have hR := R.1 d hd
    rw [z]
    simp only [if_true]
    refine ⟨?_, fun w => absurd w (by decide)⟩
    rcases hR.1 with w | w
    · exact .inr ⟨hX, trivial, by rw [w]; exact h0, by rw [hR.2 h0]; exact h2⟩
    · exact absurd h0 (by rw [w.2.1]; decide)
  · simp only [if_neg z]; exact R.1 e he
theorem tp_drop_spec {σ : tp_St} {c d : Nat} (I : tp_Inv σ) (hc : c < 400) (hd : d < 12) (ho : tp_oN σ c d = true) :
    ∃ σ', fC_dropCopy σ (tp_nI c) (tp_nI d) = some σ' ∧ tp_Inv σ' ∧ (∀ c' e, e < 12 → tp_oN σ' c' e = (tp_oN σ c' e && !(decide (c' = c) && decide (e = d)))) ∧
      (σ' 3 = σ 3 ∧ σ' 6 = σ 6 ∧ σ' 7 = σ 7 ∧ σ' 4 c = tp_ot σ c d) ∧ (∀ e, e ≠ d → σ' 0 e = σ 0 e ∧ σ' 2 e = σ 2 e) ∧
      ((σ' 0 d = σ 0 d ∧ σ' 2 d = σ 2 d) ∨ (σ 2 d = 1 ∧ σ' 0 d = 0 ∧ σ' 2 d = 0)) ∧ (∀ e, e < 12 → tp_cn σ' e + (decide (e = d)).toNat = tp_cn σ e) ∧
      ∀ X τ, tp_Rel X σ τ → (σ 2 d ≠ 0 → X d) → tp_Rel X σ' (tp_up τ 4 c (τ 4 c - tp_bt (tp_nI d))) := by
  obtain ⟨hV, hm, hO⟩ := tp_ot_V (I.vv hc) hd ho
  have hP : tp_Pt σ (tp_up (tp_up (tp_up σ 4 c (tp_ot σ c d)) 5 c (-1)) 1 d (σ 1 d - 1)) c (tp_ot σ c d) (-1) d (σ 1 d - 1) := tp_Pt3
  have hcn : ∀ e, e < 12 → tp_cn (tp_up (tp_up (tp_up σ 4 c (tp_ot σ c d)) 5 c (-1)) 1 d (σ 1 d - 1)) e + (decide (e = d)).toNat = tp_cn σ e := by
    intro e he
    have k := hP.cn hc e
    rw [hO e he] at k
    by_cases z : e = d
    · rw [z, ho, decide_eq_true rfl] at k
      rw [z, decide_eq_true rfl]
      have t1 : (true).toNat = 1 := rfl
      have t3 : (true && !true).toNat = 0 := rfl
      omega
    · rw [decide_eq_false z] at k
      rw [decide_eq_false z]
      have t2 : (false).toNat = 0 := rfl
      have t3 : (tp_oN σ c e && !false) = tp_oN σ c e := Bool.and_true _
      rw [t3] at k
      omega
  have hd0 : 0 < tp_cn σ d := tp_cntF_pos (p := fun c => tp_oN σ c d) hc ho
  have hcd := hcn d hd
  rw [decide_eq_true rfl] at hcd
  have t1 : (true).toNat = 1 := rfl
  have h1d : σ 1 d - 1 = tp_nI (tp_cn σ d - 1) := by rw [I.2.1 d hd]; exact (Int32.ofNat_sub (tp_cn σ d) 1 hd0).symm
  have h3 : σ 3 c = 1 := tp_oN_ex I hc hd ho
  have hrun : fC_dropCopy σ (tp_nI c) (tp_nI d) = if (decide (σ 2 d ≠ 0) && decide (σ 1 d - 1 = 0)) then some (tp_gone (tp_up (tp_up (tp_up σ 4 c (tp_ot σ c d)) 5 c (-1)) 1 d (σ 1 d - 1)) d) else some (tp_up (tp_up (tp_up σ 4 c (tp_ot σ c d)) 5 c (-1)) 1 d (σ 1 d - 1)) := by
    rw [fC_dropCopy, tp_C_other hc, Option.bind_some, if_neg (tp_b4 hc), if_neg (tp_bd hd), tp_t4 hc, tp_td hd]
    show ((fC_hasLeft (tp_up (tp_up (tp_up σ 4 c (tp_ot σ c d)) 5 c (-1)) 1 d (σ 1 d - 1)) (tp_nI d)).bind fun q5 => if q5 = 0 then some (tp_up (tp_up (tp_up σ 4 c (tp_ot σ c d)) 5 c (-1)) 1 d (σ 1 d - 1)) else ((fC_takeAway (tp_up (tp_up (tp_up σ 4 c (tp_ot σ c d)) 5 c (-1)) 1 d (σ 1 d - 1)) (tp_nI d)).bind fun q8 => some q8)) = _
    rw [tp_C_hasLeft hd, Option.bind_some, tp_if_bI, tp_C_takeAway hd, Option.bind_some]
    show (if (decide (σ 2 d ≠ 0) && decide ((if d = d then σ 1 d - 1 else σ 1 d) = 0)) = true then _ else _) = _
    rw [if_pos rfl]
  have hon : ∀ c' e, e < 12 → tp_oN (tp_up (tp_up (tp_up σ 4 c (tp_ot σ c d)) 5 c (-1)) 1 d (σ 1 d - 1)) c' e = (tp_oN σ c' e && !(decide (c' = c) && decide (e = d))) := by
    intro c' e he
    rw [hP.oN c' e]
    by_cases z : c' = c
    · rw [if_pos z, hO e he, z, decide_eq_true rfl, Bool.true_and]
    · rw [if_neg z, decide_eq_false z, Bool.false_and, Bool.not_false, Bool.and_true]
  have hcm : ∀ e, e < 12 → e ≠ d → tp_cn (tp_up (tp_up (tp_up σ 4 c (tp_ot σ c d)) 5 c (-1)) 1 d (σ 1 d - 1)) e = tp_cn σ e := by
    intro e he z
    have k := hcn e he
    rw [decide_eq_false z] at k
    have t2 : (false).toNat = 0 := rfl
    omega
  have h1e : ∀ e, e < 12 → (if e = d then σ 1 d - 1 else σ 1 e) = tp_nI (tp_cn (tp_up (tp_up (tp_up σ 4 c (tp_ot σ c d)) 5 c (-1)) 1 d (σ 1 d - 1)) e) := by
    intro e he
    by_cases z : e = d
    · rw [if_pos z, z, show tp_cn (tp_up (tp_up (tp_up σ 4 c (tp_ot σ c d)) 5 c (-1)) 1 d (σ 1 d - 1)) d = tp_cn σ d - 1 from by omega]; exact h1d
    · rw [if_neg z, hcm e he z]; exact I.2.1 e he
  have h4k : ∀ k, k < 400 → (σ 3 k = 0 ∧ (if k = c then tp_ot σ c d else σ 4 k) = -1 ∧ (if k = c then (-1) else σ 5 k) = -1) ∨ (σ 3 k = 1 ∧ tp_VV (if k = c then tp_ot σ c d else σ 4 k) (if k = c then (-1) else σ 5 k)) := by
    intro k hk
    by_cases z : k = c
    · rw [if_pos z, if_pos z, z]; exact .inr ⟨h3, hV⟩
    · rw [if_neg z, if_neg z]; exact I.2.2.2 k hk
  have hrel : ∀ X τ, tp_Rel X σ τ → tp_Rel X (tp_up (tp_up (tp_up σ 4 c (tp_ot σ c d)) 5 c (-1)) 1 d (σ 1 d - 1)) (tp_up τ 4 c (τ 4 c - tp_bt (tp_nI d))) := fun X τ R => hP.rel R (by rw [R.cp hc, hm])
  rw [hrun]
  by_cases hl : (decide (σ 2 d ≠ 0) && decide (σ 1 d - 1 = 0)) = true
  · -- the disk is tp_gone
    rw [if_pos hl]
    rw [Bool.and_eq_true, decide_eq_true_eq, decide_eq_true_eq] at hl
    obtain ⟨l1, l2, l3⟩ := I.lv hd hl.1
    have l4 : tp_cn σ d = 1 := by
      have := hl.2
      rw [h1d, tp_nI_0 (by have := tp_cn_le σ d; omega)] at this
      omega
    refine ⟨_, rfl, ⟨fun e he => ?_, fun e he => h1e e he, fun e he => ?_, fun k hk => h4k k hk⟩, fun c' e he => hon c' e he, ⟨rfl, rfl, rfl, if_pos rfl⟩, fun e he => ⟨if_neg he, if_neg he⟩, .inr ⟨l2, if_pos rfl, if_pos rfl⟩, hcn, fun X τ R hX => (hrel X τ R).gone hd (hX hl.1) l1 hl.1⟩
    · show ∃ P, P ≤ 200 ∧ (if e = d then 0 else σ 0 e) = tp_nI P ∧ tp_cn (tp_up (tp_up (tp_up σ 4 c (tp_ot σ c d)) 5 c (-1)) 1 d (σ 1 d - 1)) e ≤ P
      by_cases z : e = d
      · exact ⟨0, by omega, by rw [if_pos z]; rfl, by rw [z]; omega⟩
      · obtain ⟨i1, i2, i3⟩ := I.pl he
        exact ⟨tp_pl σ e, i2, by rw [if_neg z]; exact i1, by rw [hcm e he z]; exact i3⟩
    · show (if e = d then 0 else σ 2 e) = 0 ∨ ((if e = d then 0 else σ 2 e) = 1 ∧ 0 < tp_cn (tp_up (tp_up (tp_up σ 4 c (tp_ot σ c d)) 5 c (-1)) 1 d (σ 1 d - 1)) e)
      by_cases z : e = d
      · exact .inl (if_pos z)
      · rw [if_neg z, hcm e he z]; exact I.2.2.1 e he
  · rw [if_neg hl]
    refine ⟨_, rfl, ⟨fun e he => ?_, fun e he => h1e e he, fun e he => ?_, fun k hk => h4k k hk⟩, fun c' e he => hon c' e he, ⟨rfl, rfl, rfl, if_pos rfl⟩, fun e he => ⟨rfl, rfl⟩, .inl ⟨rfl, rfl⟩, hcn, fun X τ R hX => hrel X τ R⟩
    · obtain ⟨i1, i2, i3⟩ := I.pl he
      refine ⟨tp_pl σ e, i2, i1, ?_⟩
      have := hcn e he
      omega
    · show σ 2 e = 0 ∨ (σ 2 e = 1 ∧ 0 < tp_cn (tp_up (tp_up (tp_up σ 4 c (tp_ot σ c d)) 5 c (-1)) 1 d (σ 1 d - 1)) e)
      by_cases z : e = d
      · by_cases w : σ 2 d = 0
        · rw [z]; exact .inl w
        · refine .inr ⟨by rw [z]; exact (I.lv hd w).2.1, ?_⟩
          have k : ¬ σ 1 d - 1 = 0 := fun v => hl (by rw [decide_eq_true w, decide_eq_true v]; rfl)
          rw [h1d, tp_nI_0 (by have := tp_cn_le σ d; omega)] at k
          rw [z]; omega
      · rw [hcm e he z]; exact I.2.2.1 e he
theorem tp_up_up {σ : tp_St} {f k : Nat} {x y : Int32} : tp_up (tp_up σ f k x) f k y = tp_up σ f k y := by
  funext g j
  show (if g = f then upd (if f = f then upd (σ f) k x else σ f) k y else (if g = f then upd (σ f) k x else σ g)) j = (if g = f then upd (σ f) k y else σ g) j
  by_cases h : g = f
  · rw [if_pos h, if_pos h, if_pos rfl]
    show (if j = k then y else if j = k then x else σ f j) = if j = k then y else σ f j
    by_cases e : j = k
    · rw [if_pos e, if_pos e]
    · rw [if_neg e, if_neg e, if_neg e]
  · rw [if_neg h, if_neg h, if_neg h]
def tp_mvO (σ : tp_St) (c a b c' e : Nat) : Bool := if c' = c then ((tp_oN σ c e && !decide (e = a)) || decide (e = b)) else tp_oN σ c' e
theorem tp_move_spec {σ : tp_St} {c a b : Nat} (I : tp_Inv σ) (hc : c < 400) (ha : a < 12) (hb : b < 12) (hoa : tp_oN σ c a = true) (hob : tp_oN σ c b = false) (hf : tp_cn σ b < tp_pl σ b) :
    ∃ σ', fC_moveCopy σ (tp_nI c) (tp_nI a) (tp_nI b) = some σ' ∧ tp_Inv σ' ∧ (∀ c' e, e < 12 → tp_oN σ' c' e = tp_mvO σ c a b c' e) ∧ (σ' 3 = σ 3 ∧ σ' 6 = σ 6 ∧ σ' 7 = σ 7) ∧ (∀ e, e ≠ a → σ' 0 e = σ 0 e ∧ σ' 2 e = σ 2 e) ∧
      ((σ' 0 a = σ 0 a ∧ σ' 2 a = σ 2 a) ∨ (σ 2 a = 1 ∧ σ' 0 a = 0 ∧ σ' 2 a = 0)) ∧ (∀ e, e < 12 → tp_cn σ' e + (decide (e = a)).toNat = tp_cn σ e + (decide (e = b)).toNat) ∧
      ∀ X τ, tp_Rel X σ τ → (σ 2 a ≠ 0 → X a) → tp_Rel X σ' (tp_up τ 4 c (τ 4 c - tp_bt (tp_nI a) + tp_bt (tp_nI b))) := by
  have hab : b ≠ a := fun z => by rw [z, hoa] at hob; cases hob
  obtain ⟨σ1, r1, I1, o1, ⟨s3, s6, s7, _⟩, se, sa, c1, R1⟩ := tp_drop_spec I hc ha hoa
  have h3 : σ1 3 c = 1 := by rw [s3]; exact tp_oN_ex I hc ha hoa
  have hcb := c1 b hb
  rw [decide_eq_false hab] at hcb
  have t2 : (false).toNat = 0 := rfl
  have t1 : (true).toNat = 1 := rfl
  have ob1 : tp_oN σ1 c b = false := by rw [o1 c b hb, hob]; rfl
  have hn1 : tp_nc σ1 c < 2 := by
    have k := tp_sumF_upd (f := fun e => (tp_oN σ1 c e).toNat) (g := fun e => (tp_oN σ c e).toNat) (c := a) (n := 12) ha (fun e he hne => by show (tp_oN σ1 c e).toNat = _; rw [o1 c e he, decide_eq_false hne, Bool.and_false]; exact congrArg Bool.toNat (Bool.and_true _))
    have k1 : tp_oN σ1 c a = false := by rw [o1 c a ha, hoa, decide_eq_true rfl, decide_eq_true rfl]; rfl
    have k2 : tp_cntF (fun e => tp_oN σ1 c e) 12 + (tp_oN σ c a).toNat = tp_cntF (fun e => tp_oN σ c e) 12 + (tp_oN σ1 c a).toNat := k
    rw [tp_nc_cnt (I1.vv hc), tp_nc_cnt (I.vv hc), hoa, k1] at k2
    have := tp_nc_lt σ c
    omega
  have pb : tp_pl σ1 b = tp_pl σ b := by rw [tp_pl, tp_pl, (se b hab).1]
  obtain ⟨σ2, r2, I2, o2, ⟨q0, q2, q3, q6, q7⟩, c2, R2⟩ := tp_add_spec I1 hc hb h3 hn1 ob1 (by rw [pb]; omega)
  refine ⟨σ2, by rw [fC_moveCopy, r1, Option.bind_some, r2, Option.bind_some], I2, fun c' e he => ?_, ⟨q3.trans s3, q6.trans s6, q7.trans s7⟩, fun e he => ⟨by rw [q0]; exact (se e he).1, by rw [q2]; exact (se e he).2⟩, by rw [q0, q2]; exact sa, fun e he => ?_, fun X τ R hX => ?_⟩
  · rw [o2 c' e he, o1 c' e he, tp_mvO]
    by_cases z : c' = c
    · rw [if_pos z, z, decide_eq_true rfl, Bool.true_and, Bool.true_and]
    · rw [if_neg z, decide_eq_false z, Bool.false_and, Bool.false_and, Bool.not_false, Bool.and_true, Bool.or_false]
  · have k1 := c1 e he
    have k2 := c2 e he
    omega
  · have k := R2 X _ (R1 X τ R hX)
    rw [tp_up_up] at k
    have e1 : tp_up τ 4 c (τ 4 c - tp_bt (tp_nI a)) 4 c = τ 4 c - tp_bt (tp_nI a) := tp_up_eq
    rw [e1] at k
    exact k
def tp_tY (σ τ : tp_St) : Nat → tp_St
  | 0 => τ
  | n + 1 => if 0 < tp_tY σ τ n 1 n ∧ tp_tY σ τ n 2 n ≠ 0 ∧ tp_cn σ n = 0 then tp_up (tp_tY σ τ n) 1 n 0 else tp_tY σ τ n
theorem tp_tY_rel {X : Nat → Prop} {σ τ : tp_St} (I : tp_Inv σ) (R : tp_Rel X σ τ) : ∀ i, i ≤ 12 → tp_Rel (fun d => i ≤ d ∧ X d) σ (tp_tY σ τ i) := by
  intro i
  induction i with
  | zero => intro _; exact R.mono (fun d _ h => ⟨Nat.zero_le d, h⟩)
  | succ i ih =>
    intro hi
    have k := ih (by omega)
    rw [tp_tY]
    by_cases z : 0 < tp_tY σ τ i 1 i ∧ tp_tY σ τ i 2 i ≠ 0 ∧ tp_cn σ i = 0
    · rw [if_pos z]
      refine ⟨fun d hd => ?_, k.2⟩
      show ((if d = i then 0 else tp_tY σ τ i 1 d) = σ 0 d ∨ ((i + 1 ≤ d ∧ X d) ∧ σ 0 d = 0 ∧ 0 < (if d = i then 0 else tp_tY σ τ i 1 d) ∧ tp_tY σ τ i 2 d ≠ 0)) ∧ (0 < σ 0 d → tp_tY σ τ i 2 d = σ 2 d)
      refine ⟨?_, (k.1 d hd).2⟩
      by_cases e : d = i
      · rw [if_pos e]
        left
        rcases (k.1 i (by omega)).1 with w | w
        · exfalso
          rw [w] at z
          have := (k.1 i (by omega)).2 z.1
          rw [this] at z
          have := (I.lv (by omega) z.2.1).2.2
          omega
        · rw [e, w.2.1]
      · rw [if_neg e]
        rcases (k.1 d hd).1 with w | w
        · exact .inl w
        · exact .inr ⟨⟨by omega, w.1.2⟩, w.2⟩
    · rw [if_neg z]
      refine ⟨fun d hd => ⟨?_, (k.1 d hd).2⟩, k.2⟩
      rcases (k.1 d hd).1 with w | w
      · exact .inl w
      · by_cases e : d = i
        · exfalso
          rw [e] at w
          have h0 : tp_cn σ i = 0 := by
            obtain ⟨P, h1, h2, h3⟩ := I.1 i (by omega)
            have h4 := w.2.1
            rw [h2, tp_nI_0 (by omega)] at h4
            omega
          exact z ⟨w.2.2.1, w.2.2.2, h0⟩
        · exact .inr ⟨⟨by omega, w.1.2⟩, w.2⟩
theorem tp_M_tidy {X : Nat → Prop} {σ τ : tp_St} (I : tp_Inv σ) (R : tp_Rel X σ τ) : ∃ τ', fM_tidy τ = some τ' ∧ tp_Rel tp_noX σ τ' ∧ τ' 0 = τ 0 := by
  refine ⟨tp_tY σ τ 12, ?_, (tp_tY_rel I R 12 (Nat.le_refl _)).mono (fun d hd h => absurd h.1 (by omega)), ?_⟩
  · refine tp_acc_loop0 (F := fun n (b : tp_St) y => fM_tidy_L2 n y b) (N := 12) (acc := fun i => tp_tY σ τ i) ?_ ?_
    · show fM_tidy_L2 1 (tp_nI 12) _ = _
      rw [fM_tidy_L2, if_pos (by decide)]
    · intro n i hi
      show fM_tidy_L2 (n + 1) (tp_nI i) (tp_tY σ τ i) = fM_tidy_L2 n (tp_nI i + 1) (tp_tY σ τ (i + 1))
      have k := tp_tY_rel I R i (by omega)
      have hc := tp_cn_le σ i
      rw [fM_tidy_L2, if_neg (tp_gd hi), if_neg (tp_bd hi), tp_td hi, tp_tY]
      by_cases z : 0 < tp_tY σ τ i 1 i
      · rw [if_neg (Int32.not_le.mpr z)]
        by_cases y : tp_tY σ τ i 2 i = 0
        · rw [if_pos y, if_neg (fun w => w.2.1 y)]
        · rw [if_neg y, tp_M_used I k hi, Option.bind_some]
          by_cases w : tp_cn σ i = 0
          · rw [if_pos ((tp_nI_0 (by omega)).mpr w), if_pos ⟨z, y, w⟩]
          · rw [if_neg (fun v => w ((tp_nI_0 (by omega)).mp v)), if_neg (fun v => w v.2.2)]
      · rw [if_pos (Int32.not_lt.mp z), if_neg (fun w => z w.1)]
  · have : ∀ i, tp_tY σ τ i 0 = τ 0 := by
      intro i
      induction i with
      | zero => rfl
      | succ i ih =>
        rw [tp_tY]
        by_cases z : 0 < tp_tY σ τ i 1 i ∧ tp_tY σ τ i 2 i ≠ 0 ∧ tp_cn σ i = 0
        · rw [if_pos z]; exact ih
        · rw [if_neg z]; exact ih
    exact this 12
end
section
def tp_rm (σ : tp_St) (D c : Nat) : Int32 := if tp_oN σ c D then -1 else if tp_syv σ (σ 4 c) then σ 4 c else if tp_syv σ (σ 5 c) then σ 5 c else -1
theorem tp_C_cfr {σ : tp_St} (I : tp_Inv σ) {c : Nat} (hc : c < 400) (D : Nat) : fC_copyForRoom σ (tp_nI c) (tp_nI D) = some (tp_rm σ D c) := by
  rw [fC_copyForRoom, tp_C_isOn' hc D, Option.bind_some, tp_if_bI, tp_rm]
  cases tp_oN σ c D with
  | true => rfl
  | false =>
    rw [if_neg (by decide), if_neg (tp_b4 hc), tp_t4 hc, tp_C_staysv (I.vv hc).l, Option.bind_some, tp_if_bI, tp_C_staysv (I.vv hc).g, Option.bind_some, tp_if_bI]
    cases tp_syv σ (σ 4 c) with
    | true => rfl
    | false => cases tp_syv σ (σ 5 c) <;> rfl
theorem tp_syv_d {σ : tp_St} {x : Int32} (hx : tp_DD x) (h : tp_syv σ x = true) : ∃ a, a < 12 ∧ x = tp_nI a ∧ tp_sy σ a = true := by
  rcases hx with hx | ⟨a, ha, hx⟩
  · rw [hx, tp_syv_m] at h; cases h
  · exact ⟨a, ha, hx, by rw [hx, tp_syv_n σ ha] at h; exact h⟩
theorem tp_rm_some {σ : tp_St} (I : tp_Inv σ) {D c : Nat} (hc : c < 400) (h : tp_rm σ D c ≠ -1) : ∃ a, a < 12 ∧ tp_rm σ D c = tp_nI a ∧ tp_oN σ c a = true ∧ tp_oN σ c D = false ∧ tp_sy σ a = true := by
  rw [tp_rm] at h
  rw [tp_rm]
  cases ho : tp_oN σ c D with
  | true => rw [ho, if_pos rfl] at h; exact absurd rfl h
  | false =>
    rw [ho, if_neg (by decide)] at h
    rw [if_neg (by decide)]
    cases h1 : tp_syv σ (σ 4 c) with
    | true =>
      obtain ⟨a, ha, e, hs⟩ := tp_syv_d (I.vv hc).l h1
      exact ⟨a, ha, by rw [if_pos rfl]; exact e, by rw [tp_oN, e, decide_eq_true rfl]; rfl, rfl, hs⟩
    | false =>
      rw [h1, if_neg (by decide)] at h
      cases h2 : tp_syv σ (σ 5 c) with
      | true =>
        obtain ⟨a, ha, e, hs⟩ := tp_syv_d (I.vv hc).g h2
        exact ⟨a, ha, by rw [if_neg (by decide), if_pos rfl]; exact e, by rw [tp_oN, e, decide_eq_true rfl, Bool.or_true], rfl, hs⟩
      | false => rw [h2, if_neg (by decide)] at h; exact absurd rfl h
def tp_fR (σ : tp_St) (D : Nat) : Option Nat := tp_findF (fun c => decide (tp_rm σ D c ≠ -1)) 400 0
theorem tp_C_mr {σ : tp_St} (I : tp_Inv σ) (D : Nat) : fC_makeRoomBeside σ (tp_nI D) = (tp_fR σ D).elim (some (-1, σ)) (fun c => (fC_moveCopy σ (tp_nI c) (tp_rm σ D c) (tp_nI D)).bind fun q => some (tp_rm σ D c, tp_up q 7 0 (q 7 0 + 1))) := by
  refine tp_find_loop0 (F := fun n x => fC_makeRoomBeside_L2 (tp_nI D) n x σ) (N := 400) ?_ ?_
  · show fC_makeRoomBeside_L2 (tp_nI D) 1 (tp_nI 400) σ = _
    rw [fC_makeRoomBeside_L2, if_pos (by decide)]
  · intro n i hi
    show fC_makeRoomBeside_L2 (tp_nI D) (n + 1) (tp_nI i) σ = _
    rw [fC_makeRoomBeside_L2, if_neg (tp_g4 hi), tp_C_cfr I hi, Option.bind_some]
    by_cases z : tp_rm σ D i = -1
    · rw [if_pos z, decide_eq_false (fun w => w z)]; rfl
    · rw [if_neg z, decide_eq_true z]; rfl
theorem tp_fd_lg {σ : tp_St} {c : Nat} (h : tp_VV (σ 4 c) (σ 5 c)) : tp_findF (fun e => tp_oN σ c e && tp_sy σ e) 12 0 = if tp_syv σ (σ 4 c) then some (σ 4 c).toNatClampNeg else if tp_syv σ (σ 5 c) then some (σ 5 c).toNatClampNeg else none := by
  have hne : ∀ e, e < 12 → decide ((-1 : Int32) = tp_nI e) = false := fun e he => decide_eq_false (tp_nI_m' (by omega))
  have hee : ∀ a e, a < 12 → e < 12 → decide (tp_nI a = tp_nI e) = decide (e = a) := fun a e ha he => decide_eq_decide.mpr ⟨fun z => ((tp_nI_eq (by omega) (by omega)).mp z).symm, fun z => by rw [z]⟩
  rcases h with ⟨h1, h2⟩ | ⟨a, ha, h1, h2⟩ | ⟨a, b, hab, hb, h1, h2⟩
  · rw [h1, h2, tp_syv_m, if_neg (by decide), if_neg (by decide)]
    exact tp_findF_no (fun m hm => by rw [tp_oN, h1, h2, hne m hm]; rfl)
  · rw [h1, h2, tp_syv_m, tp_syv_n σ ha, tp_td ha, if_neg (show ¬ false = true by decide)]
    cases hs : tp_sy σ a with
    | true =>
      rw [if_pos rfl]
      exact tp_findF_is ha (by rw [tp_oN, h1, decide_eq_true rfl, hs]; rfl) (fun m hm => by rw [tp_oN, h1, h2, hne m (by omega), hee a m ha (by omega), decide_eq_false (by omega)]; rfl)
    | false =>
      rw [if_neg (by decide)]
      exact tp_findF_no (fun m hm => by
        rw [tp_oN, h1, h2, hne m hm, hee a m ha hm]
        by_cases z : m = a
        · rw [z, hs, Bool.and_false]
        · rw [decide_eq_false z]; rfl)
  · have ha : a < 12 := by omega
    rw [h1, h2, tp_syv_n σ ha, tp_syv_n σ hb, tp_td ha, tp_td hb]
    have hp : ∀ m, m < 12 → (tp_oN σ c m && tp_sy σ m) = ((decide (m = a) || decide (m = b)) && tp_sy σ m) := fun m hm => by rw [tp_oN, h1, h2, hee a m ha hm, hee b m hb hm]
    cases hs : tp_sy σ a with
    | true =>
      rw [if_pos rfl]
      exact tp_findF_is ha (by rw [hp a ha, decide_eq_true rfl, hs]; rfl) (fun m hm => by rw [hp m (by omega), decide_eq_false (by omega), decide_eq_false (by omega)]; rfl)
    | false =>
      rw [if_neg (by decide)]
      have hz : ∀ m, m < 12 → m ≠ b → (tp_oN σ c m && tp_sy σ m) = false := fun m hm hmb => by
        rw [hp m hm, decide_eq_false hmb]
        by_cases z : m = a
        · rw [z, hs, Bool.and_false]
        · rw [decide_eq_false z]; rfl
      cases ht : tp_sy σ b with
      | true =>
        rw [if_pos rfl]
        exact tp_findF_is hb (by rw [hp b hb, decide_eq_true (rfl : b = b), ht, Bool.or_true]; rfl) (fun m hm => hz m (by omega) (by omega))
      | false =>
        rw [if_neg (by decide)]
        exact tp_findF_no (fun m hm => by
          by_cases z : m = b
          · rw [z, ht, Bool.and_false]
          · exact hz m hm z)
def tp_mT (τ : tp_St) (c : Nat) (x y : Int32) : tp_St := tp_up (tp_up τ 4 c (τ 4 c - 1 <<< (x &&& 31) + 1 <<< (y &&& 31))) 6 0 (τ 6 0 + 1)
theorem tp_M_mr {σ τ : tp_St} (I : tp_Inv σ) (R : tp_Rel tp_noX σ τ) {D : Nat} (hD : D < 12) : fM_makeRoom τ (tp_nI D) = (tp_fR σ D).elim (some (-1, τ)) (fun c => some (tp_rm σ D c, tp_mT τ c (tp_rm σ D c) (tp_nI D))) := by
  refine tp_find_loop0 (F := fun n x => fM_makeRoom_L2 (tp_nI D) n x τ) (N := 400) ?_ ?_
  · show fM_makeRoom_L2 (tp_nI D) 1 (tp_nI 400) τ = _
    rw [fM_makeRoom_L2, if_pos (by decide)]
  · intro n i hi
    show fM_makeRoom_L2 (tp_nI D) (n + 1) (tp_nI i) τ = if decide (tp_rm σ D i ≠ -1) then some (tp_rm σ D i, tp_mT τ i (tp_rm σ D i) (tp_nI D)) else fM_makeRoom_L2 (tp_nI D) n (tp_nI i + 1) τ
    rw [fM_makeRoom_L2, if_neg (tp_g4 hi), if_neg (tp_b4 hi), tp_t4 hi, R.th hi]
    by_cases y : σ 3 i = 0
    · have h4 : σ 4 i = -1 ∧ σ 5 i = -1 := by
        rcases I.2.2.2 i hi with z | z
        · exact z.2
        · rw [z.1] at y; exact absurd y (by decide)
      have hr : tp_rm σ D i = -1 := by rw [tp_rm, h4.1, h4.2, tp_syv_m, if_neg (show ¬ false = true by decide), if_neg (show ¬ false = true by decide)]; exact ite_self _
      rw [if_pos y, hr, decide_eq_false (fun w => w rfl)]; rfl
    · rw [if_neg y, tp_M_isOn I R hi hD, Option.bind_some, tp_if_bI]
      cases ho : tp_oN σ i D with
      | true =>
        have hr : tp_rm σ D i = -1 := by rw [tp_rm, ho, if_pos rfl]
        rw [if_pos rfl, hr, decide_eq_false (fun w => w rfl)]; rfl
      | false =>
        rw [if_neg (by decide)]
        have inner : fM_makeRoom_L29 (fun (σ29k : tp_St) => fM_makeRoom_L2 (tp_nI D) n (tp_nI i + 1) σ29k) (tp_nI D) (tp_nI i) 13 0 τ = (tp_findF (fun e => tp_oN σ i e && tp_sy σ e) 12 0).elim (fM_makeRoom_L2 (tp_nI D) n (tp_nI i + 1) τ) (fun e => some (tp_nI e, tp_mT τ i (tp_nI e) (tp_nI D))) := by
          refine tp_find_loop0 (F := fun n' x => fM_makeRoom_L29 (fun (σ29k : tp_St) => fM_makeRoom_L2 (tp_nI D) n (tp_nI i + 1) σ29k) (tp_nI D) (tp_nI i) n' x τ) (N := 12) ?_ ?_
          · show fM_makeRoom_L29 _ (tp_nI D) (tp_nI i) 1 (tp_nI 12) τ = _
            rw [fM_makeRoom_L29, if_pos (by decide)]
          · intro n' e he
            show fM_makeRoom_L29 _ (tp_nI D) (tp_nI i) (n' + 1) (tp_nI e) τ = _
            rw [fM_makeRoom_L29, if_neg (tp_gd he), tp_M_isOn I R hi he, Option.bind_some, tp_if_bI, tp_M_stays R he, Option.bind_some, tp_if_bI, if_neg (tp_b4 hi), tp_t4 hi]
            cases tp_oN σ i e with
            | false => rfl
            | true => cases tp_sy σ e <;> rfl
        rw [inner, tp_fd_lg (I.vv hi), tp_rm, ho, if_neg (show ¬ false = true by decide)]
        cases h1 : tp_syv σ (σ 4 i) with
        | true =>
          obtain ⟨a, ha, e, hs⟩ := tp_syv_d (I.vv hi).l h1
          rw [if_pos rfl, if_pos rfl, e, tp_td ha, decide_eq_true (tp_nI_m (by omega))]; rfl
        | false =>
          rw [if_neg (show ¬ false = true by decide), if_neg (show ¬ false = true by decide)]
          cases h2 : tp_syv σ (σ 5 i) with
          | true =>
            obtain ⟨a, ha, e, hs⟩ := tp_syv_d (I.vv hi).g h2
            rw [if_pos rfl, if_pos rfl, e, tp_td ha, decide_eq_true (tp_nI_m (by omega))]; rfl
          | false => rw [if_neg (show ¬ false = true by decide), if_neg (show ¬ false = true by decide)]; rfl
theorem tp_room_sim {σ τ : tp_St} (I : tp_Inv σ) (R : tp_Rel tp_noX σ τ) {D : Nat} (hD : D < 12) (hf : tp_cn σ D < tp_pl σ D) :
    (tp_fR σ D = none ∧ fC_makeRoomBeside σ (tp_nI D) = some (-1, σ) ∧ fM_makeRoom τ (tp_nI D) = some (-1, τ)) ∨
    ∃ c a σ' τ', c < 400 ∧ a < 12 ∧ tp_fR σ D = some c ∧ tp_oN σ c a = true ∧ tp_oN σ c D = false ∧ tp_sy σ a = true ∧ fC_makeRoomBeside σ (tp_nI D) = some (tp_nI a, σ') ∧ fM_makeRoom τ (tp_nI D) = some (tp_nI a, τ') ∧ tp_Inv σ' ∧ tp_Rel tp_noX σ' τ' ∧ τ' 0 = τ 0 ∧
      (∀ c' e, e < 12 → tp_oN σ' c' e = tp_mvO σ c a D c' e) ∧ (σ' 0 = σ 0 ∧ σ' 2 = σ 2 ∧ σ' 3 = σ 3 ∧ σ' 6 = σ 6) ∧ (∀ e, e < 12 → tp_cn σ' e + (decide (e = a)).toNat = tp_cn σ e + (decide (e = D)).toNat) := by
  rw [tp_C_mr I D, tp_M_mr I R hD]
  cases hr : tp_fR σ D with
  | none => exact .inl ⟨rfl, rfl, rfl⟩
  | some c =>
    obtain ⟨_, k1, k2, k3⟩ := tp_findF_some hr
    have hc : c < 400 := by omega
    obtain ⟨a, ha, e, oa, oD, hs⟩ := tp_rm_some I hc (of_decide_eq_true k2)
    have h2 : σ 2 a = 0 := (tp_sy_iff.mp hs).2
    obtain ⟨σ1, r1, I1, o1, ⟨s3, s6, s7⟩, se, sa, c1, R1⟩ := tp_move_spec I hc ha hD oa oD hf
    have e0 : ∀ x, σ1 0 x = σ 0 x ∧ σ1 2 x = σ 2 x := fun x => by
      by_cases z : x = a
      · rw [z]
        rcases sa with w | w
        · exact w
        · rw [h2] at w; exact absurd w.1 (by decide)
      · exact se x z
    refine .inr ⟨c, a, tp_up σ1 7 0 (σ1 7 0 + 1), tp_mT τ c (tp_nI a) (tp_nI D), hc, ha, rfl, oa, oD, hs, ?_, ?_, I1, ?_, rfl, o1, ⟨funext fun x => (e0 x).1, funext fun x => (e0 x).2, s3, s6⟩, c1⟩
    · show (fC_moveCopy σ (tp_nI c) (tp_rm σ D c) (tp_nI D)).bind (fun q => some (tp_rm σ D c, tp_up q 7 0 (q 7 0 + 1))) = _
      rw [e, r1]; rfl
    · show some (tp_rm σ D c, tp_mT τ c (tp_rm σ D c) (tp_nI D)) = _
      rw [e]
    · have k := R1 tp_noX τ R (fun w => absurd h2 w)
      rw [tp_mT, tp_bt_n ha, tp_bt_n hD]
      refine ⟨k.1, k.2.1, k.2.2.1, ?_⟩
      show τ 6 0 + 1 = σ1 7 0 + 1
      rw [show τ 6 0 = σ1 7 0 from k.2.2.2]
def tp_z4 (σ : tp_St) (f c : Nat) : tp_St := tp_up (tp_up (tp_up (tp_up σ f (4 * c) 0) f (4 * c + 1) 0) f (4 * c + 2) 0) f (4 * c + 3) 0
theorem tp_ix_C (c i : Nat) : tp_nI c * 4 + tp_nI i = tp_nI (4 * c + i) := by
  show Int32.ofNat c * Int32.ofNat 4 + Int32.ofNat i = Int32.ofNat (4 * c + i)
  rw [← tp_nI_mul, ← tp_nI_add, Nat.mul_comm]
theorem tp_ix_M (c i : Nat) : 4 * tp_nI c + tp_nI i = tp_nI (4 * c + i) := by
  show Int32.ofNat 4 * Int32.ofNat c + Int32.ofNat i = Int32.ofNat (4 * c + i)
  rw [← tp_nI_mul, ← tp_nI_add]
theorem tp_C_clS {σ : tp_St} {c i : Nat} (hc : c < 400) (hi : i < 4) (n : Nat) : fC_clearWords_L2 (tp_nI c) (n + 1) (tp_nI i) σ = fC_clearWords_L2 (tp_nI c) n (tp_nI (i + 1)) (tp_up σ 6 (4 * c + i) 0) := by
  rw [fC_clearWords_L2, if_neg (show ¬ (4 : Int32) ≤ tp_nI i from fun z => absurd ((tp_nI_le (i := 4) (by omega) (by omega)).mp z) (by omega)), tp_ix_C, if_neg (tp_bw (by omega)), tp_nI_t (by omega), tp_nI_s]
theorem tp_C_clear {σ : tp_St} {c : Nat} (hc : c < 400) : fC_clearWords σ (tp_nI c) = some (tp_z4 σ 6 c) := by
  rw [fC_clearWords, show (0 : Int32) = tp_nI 0 from rfl, tp_C_clS hc (by omega), tp_C_clS hc (by omega), tp_C_clS hc (by omega), tp_C_clS hc (by omega), fC_clearWords_L2, if_pos (by decide)]; rfl
theorem tp_M_clS {σ : tp_St} {c i : Nat} (hc : c < 400) (hi : i < 4) (n : Nat) : fM_newChunk_L107 (tp_nI c) (n + 1) (tp_nI i) σ = fM_newChunk_L107 (tp_nI c) n (tp_nI (i + 1)) (tp_up σ 5 (4 * c + i) 0) := by
  rw [fM_newChunk_L107, if_neg (show ¬ (4 : Int32) ≤ tp_nI i from fun z => absurd ((tp_nI_le (i := 4) (by omega) (by omega)).mp z) (by omega)), tp_ix_M, if_neg (tp_bw (by omega)), tp_nI_t (by omega), tp_nI_s]
theorem tp_M_clear {σ : tp_St} {c : Nat} (hc : c < 400) : fM_newChunk_L107 (tp_nI c) 5 0 σ = some (tp_nI c, tp_z4 σ 5 c) := by
  rw [show (0 : Int32) = tp_nI 0 from rfl, tp_M_clS hc (by omega), tp_M_clS hc (by omega), tp_M_clS hc (by omega), tp_M_clS hc (by omega), fM_newChunk_L107, if_pos (by decide)]; rfl
theorem tp_z4_at (σ : tp_St) (f c k : Nat) : tp_z4 σ f c f k = if k / 4 = c then 0 else σ f k := by
  rw [tp_z4, tp_up_at, tp_up_at, tp_up_at, tp_up_at]
  by_cases h : k / 4 = c
  · rw [if_pos h]
    rcases (show k = 4 * c + 3 ∨ k = 4 * c + 2 ∨ k = 4 * c + 1 ∨ k = 4 * c from by omega) with e | e | e | e <;> simp [e]
  · rw [if_neg h, if_neg (by omega), if_neg (by omega), if_neg (by omega), if_neg (by omega)]
theorem tp_Rel.z4 {X : Nat → Prop} {σ τ : tp_St} (R : tp_Rel X σ τ) (c : Nat) : tp_Rel X (tp_z4 σ 6 c) (tp_z4 τ 5 c) := by
  refine ⟨R.1, R.2.1, fun k hk => ?_, R.2.2.2⟩
  rw [tp_z4_at, tp_z4_at, R.2.2.1 k hk]
theorem tp_create_sim {σ τ : tp_St} (I : tp_Inv σ) (R : tp_Rel tp_noX σ τ) {c o t : Nat} (hc : c < 400) (h3 : σ 3 c = 0) (ho : o < 12) (ht : t < 12) (hot : o ≠ t) (fo : tp_cn σ o < tp_pl σ o) (ft : tp_cn σ t < tp_pl σ t) :
    ∃ σ' τ', ((fC_addCopy (tp_up σ 3 c (vp_nar .boolean 1)) (tp_nI c) (tp_nI o)).bind fun q12 => (fC_addCopy q12 (tp_nI c) (tp_nI t)).bind fun q14 => (fC_clearWords q14 (tp_nI c)).bind fun q16 => some (tp_nI c, q16)) = some (tp_nI c, σ') ∧
      fM_newChunk_L107 (tp_nI c) 5 0 (tp_up (tp_up τ 3 c (vp_nar .boolean 1)) 4 c ((1 <<< (tp_nI o &&& 31)) + (1 <<< (tp_nI t &&& 31)))) = some (tp_nI c, τ') ∧ tp_Inv σ' ∧ tp_Rel tp_noX σ' τ' ∧ τ' 0 = τ 0 ∧ tp_al σ' = tp_al σ + 1 := by
  have h45 : σ 4 c = -1 ∧ σ 5 c = -1 := by
    rcases I.2.2.2 c hc with z | z
    · exact z.2
    · rw [z.1] at h3; exact absurd h3 (by decide)
  rw [tp_vn1]
  have Ia : tp_Inv (tp_up σ 3 c 1) := by
    refine ⟨I.1, I.2.1, I.2.2.1, fun k hk => ?_⟩
    show ((if k = c then 1 else σ 3 k) = 0 ∧ σ 4 k = -1 ∧ σ 5 k = -1) ∨ ((if k = c then 1 else σ 3 k) = 1 ∧ tp_VV (σ 4 k) (σ 5 k))
    by_cases z : k = c
    · rw [if_pos z, z]; exact .inr ⟨rfl, .inl h45⟩
    · rw [if_neg z]; exact I.2.2.2 k hk
  have Ra : tp_Rel tp_noX (tp_up σ 3 c 1) (tp_up τ 3 c 1) := by
    refine ⟨R.1, fun k hk => ⟨?_, R.cp hk⟩, R.2.2⟩
    show (if k = c then 1 else τ 3 k) = if k = c then 1 else σ 3 k
    rw [R.th hk]
  have na : tp_nc (tp_up σ 3 c 1) c = 0 := if_pos h45.1
  have oa : ∀ e, e < 12 → tp_oN (tp_up σ 3 c 1) c e = false := fun e he => by
    show (decide (σ 4 c = tp_nI e) || decide (σ 5 c = tp_nI e)) = false
    rw [h45.1, h45.2, decide_eq_false (tp_nI_m' (by omega))]; rfl
  obtain ⟨σ1, r1, I1, o1, ⟨p0, p2, p3, p6, p7⟩, c1, R1⟩ := tp_add_spec Ia hc ho (show (if c = c then 1 else σ 3 c) = 1 from if_pos rfl) (by rw [na]; omega) (oa o ho) fo
  have n1 : tp_nc σ1 c < 2 := by
    rw [← tp_nc_cnt (I1.vv hc)]
    have k := tp_sumF_upd (f := fun e => (tp_oN σ1 c e).toNat) (g := fun e => (tp_oN (tp_up σ 3 c 1) c e).toNat) (c := o) (n := 12) ho (fun e he hne => by show (tp_oN σ1 c e).toNat = _; rw [o1 c e he, decide_eq_false hne, Bool.and_false, Bool.or_false])
    have k0 : tp_sumF (fun e => (tp_oN (tp_up σ 3 c 1) c e).toNat) 12 = 0 := tp_sumF_all0 (fun e he => by rw [oa e he]; rfl)
    have k1 : (tp_oN σ1 c o).toNat ≤ 1 := by cases tp_oN σ1 c o <;> decide
    show tp_sumF (fun e => (tp_oN σ1 c e).toNat) 12 < 2
    omega
  have ot1 : tp_oN σ1 c t = false := by rw [o1 c t ht, oa t ht, decide_eq_false (show ¬ t = o from fun z => hot z.symm), Bool.and_false]; rfl
  have f1 : tp_cn σ1 t < tp_pl σ1 t := by
    have k := c1 t ht
    rw [decide_eq_false (fun z => hot z.symm)] at k
    have t2 : (false).toNat = 0 := rfl
    have e1 : tp_pl σ1 t = tp_pl σ t := by rw [tp_pl, tp_pl, p0]; rfl
    have e2 : tp_cn (tp_up σ 3 c 1) t = tp_cn σ t := rfl
    omega
  obtain ⟨σ2, r2, I2, o2, ⟨q0, q2, q3, q6, q7⟩, c2, R2⟩ := tp_add_spec I1 hc ht (by rw [p3]; exact if_pos rfl) n1 ot1 f1
  have k := R2 tp_noX _ (R1 tp_noX _ Ra)
  have e1 : tp_up (tp_up τ 3 c 1) 4 c ((tp_up τ 3 c 1) 4 c + tp_bt (tp_nI o)) 4 c = τ 4 c + tp_bt (tp_nI o) := tp_up_eq
  have e2 : τ 4 c = 0 := by rw [R.cp hc, h45.1, h45.2]; exact tp_mk_z
  rw [tp_up_up, e1, e2, Int32.zero_add] at k
  refine ⟨tp_z4 σ2 6 c, tp_z4 (tp_up (tp_up τ 3 c 1) 4 c (tp_bt (tp_nI o) + tp_bt (tp_nI t))) 5 c, ?_, ?_, I2, k.z4 c, rfl, ?_⟩
  · rw [r1, Option.bind_some, r2, Option.bind_some, tp_C_clear hc]; rfl
  · rw [tp_bt_n ho, tp_bt_n ht]; exact tp_M_clear hc
  · show tp_cntF (fun i => decide (σ2 3 i ≠ 0)) 400 = tp_cntF (fun i => decide (σ 3 i ≠ 0)) 400 + 1
    have h := tp_sumF_upd (f := fun i => (decide (σ2 3 i ≠ 0)).toNat) (g := fun i => (decide (σ 3 i ≠ 0)).toNat) (c := c) (n := 400) hc (fun i hi hne => by
      show (decide (σ2 3 i ≠ 0)).toNat = (decide (σ 3 i ≠ 0)).toNat
      rw [q3, p3, show tp_up σ 3 c 1 3 i = σ 3 i from tp_up_nk hne])
    have h1 : σ2 3 c = 1 := by rw [q3, p3]; exact if_pos rfl
    have h2 : (decide (σ2 3 c ≠ 0)).toNat = 1 := by rw [h1]; rfl
    have h3' : (decide (σ 3 c ≠ 0)).toNat = 0 := by rw [h3]; rfl
    rw [h2, h3', Nat.add_zero] at h
    show tp_sumF (fun i => (decide (σ2 3 i ≠ 0)).toNat) 400 = tp_sumF (fun i => (decide (σ 3 i ≠ 0)).toNat) 400 + 1
    exact h
theorem tp_C_lun {σ : tp_St} : fC_leastUnusedNumber σ = some (tp_enc (tp_findF (fun c => decide (σ 3 c = 0)) 400 0)) := by
  have h := tp_find_loop0 (F := fun n x => fC_leastUnusedNumber_L2 σ n x) (N := 400) (p := fun c => decide (σ 3 c = 0)) (hit := fun j => some (tp_nI j)) (miss := some (-1)) (by
    show fC_leastUnusedNumber_L2 σ 1 (tp_nI 400) = _
    rw [fC_leastUnusedNumber_L2, if_pos (by decide)]) (fun n i hi => by
    show fC_leastUnusedNumber_L2 σ (n + 1) (tp_nI i) = _
    rw [fC_leastUnusedNumber_L2, if_neg (tp_g4 hi), if_neg (tp_b4 hi), tp_t4 hi]
    by_cases y : σ 3 i = 0
    · rw [if_pos y, decide_eq_true y]; rfl
    · rw [if_neg y, decide_eq_false y]; rfl)
  rw [fC_leastUnusedNumber]
  refine Eq.trans h ?_
  cases tp_findF (fun c => decide (σ 3 c = 0)) 400 0 <;> rfl
theorem tp_new_sim {σ τ : tp_St} (I : tp_Inv σ) (R : tp_Rel tp_noX σ τ) : ∃ r σ' τ', fC_newChunk σ = some (r, σ') ∧ fM_newChunk τ = some (r, τ') ∧ tp_Inv σ' ∧ tp_Rel tp_noX σ' τ' ∧ τ' 0 = τ 0 ∧ ((r = -1 ∧ σ' = σ) ∨ ((∃ c, c < 400 ∧ r = tp_nI c) ∧ tp_al σ' = tp_al σ + 1)) := by
  have hM : fM_newChunk τ = (tp_findF (fun c => decide (σ 3 c = 0)) 400 0).elim (some (-1, τ)) (fun i => fM_newChunk_L2 1 (tp_nI i) τ) := by
    refine tp_find_loop0 (F := fun n x => fM_newChunk_L2 n x τ) (N := 400) ?_ ?_
    · show fM_newChunk_L2 1 (tp_nI 400) τ = _
      rw [fM_newChunk_L2, if_pos (by decide), if_pos (by decide)]
    · intro n i hi
      show fM_newChunk_L2 (n + 1) (tp_nI i) τ = if decide (σ 3 i = 0) = true then fM_newChunk_L2 1 (tp_nI i) τ else fM_newChunk_L2 n (tp_nI i + 1) τ
      by_cases y : σ 3 i = 0
      · rw [decide_eq_true y, if_pos rfl, fM_newChunk_L2, fM_newChunk_L2, if_neg (tp_g4 hi), if_neg (tp_g4 hi), if_neg (tp_b4 hi), if_neg (tp_b4 hi), tp_t4 hi, R.th hi, if_pos y, if_pos y]
      · rw [decide_eq_false y, if_neg (by decide), fM_newChunk_L2, if_neg (tp_g4 hi), if_neg (tp_b4 hi), tp_t4 hi, R.th hi, if_neg y]
  rw [fC_newChunk, tp_C_lun, Option.bind_some, tp_C_emp, Option.bind_some, hM]
  cases hf : tp_findF (fun c => decide (σ 3 c = 0)) 400 0 with
  | none =>
    refine ⟨-1, σ, τ, ?_, rfl, I, R, rfl, .inl ⟨rfl, rfl⟩⟩
    show (if (-1 : Int32) = -1 then _ else _) = _
    rw [if_pos rfl]
  | some c =>
    obtain ⟨_, k1, k2, _⟩ := tp_findF_some hf
    have hc : c < 400 := by omega
    have h3 : σ 3 c = 0 := of_decide_eq_true k2
    have h400 : ¬ tp_nI c = 400 := fun z => absurd ((tp_nI_eq (j := 400) (by omega) (by omega)).mp z) (by omega)
    show ∃ r σ' τ', (if tp_nI c = -1 then _ else _) = _ ∧ fM_newChunk_L2 1 (tp_nI c) τ = _ ∧ _
    rw [show tp_enc (some c) = tp_nI c from rfl, if_neg (tp_nI_m (by omega)), fM_newChunk_L2, if_neg (tp_g4 hc)]
    simp only [if_neg (tp_b4 hc)]
    rw [tp_t4 hc, R.th hc, if_pos h3, if_neg h400, tp_M_emp1 I R (-1), Option.bind_some]
    cases he : tp_eM (tp_qB σ (-1)) (tp_fr σ) 12 with
    | none =>
      refine ⟨-1, σ, τ, ?_, ?_, I, R, rfl, .inl ⟨rfl, rfl⟩⟩
      · show (if (-1 : Int32) = -1 then _ else _) = _
        rw [if_pos rfl]
      · show (if 0 ≤ (-1 : Int32) then _ else (if (-1 : Int32) < 0 then _ else _)) = _
        rw [if_neg (by decide), if_pos (by decide)]
    | some o =>
      obtain ⟨ho, hqo, hfo⟩ := tp_eM_some he
      have fo := (tp_fr_pos I ho).mp hfo
      have p0 : 0 ≤ tp_nI o := Int32.not_lt.mp (tp_nI_nn (by omega))
      rw [show tp_enc (some o) = tp_nI o from rfl, if_neg (tp_nI_m (by omega)), if_pos p0, tp_M_emp1 I R (tp_nI o), Option.bind_some, tp_C_emp, Option.bind_some, if_neg (tp_nI_nn (by omega))]
      cases h2 : tp_eM (tp_qB σ (tp_nI o)) (tp_fr σ) 12 with
      | some t =>
        obtain ⟨ht, hqt, hft⟩ := tp_eM_some h2
        have p1 : 0 ≤ tp_nI t := Int32.not_lt.mp (tp_nI_nn (by omega))
        have hot : o ≠ t := fun z => by
          rw [tp_qB, Bool.and_eq_true, decide_eq_true_eq] at hqt
          exact hqt.1 (by rw [z])
        rw [show tp_enc (some t) = tp_nI t from rfl, if_neg (tp_nI_m (by omega)), if_neg (tp_nI_m (by omega)), if_pos p1, if_pos p1]
        obtain ⟨σ', τ', a1, a2, a3, a4, a5, a6⟩ := tp_create_sim I R hc h3 ho ht hot fo ((tp_fr_pos I ht).mp hft)
        exact ⟨tp_nI c, σ', τ', a1, a2, a3, a4, a5, .inr ⟨⟨c, hc, rfl⟩, a6⟩⟩
      | none =>
        rw [show tp_enc none = -1 from rfl, if_pos (show (-1 : Int32) = -1 from rfl), if_neg (show ¬ (0 : Int32) ≤ -1 by decide), tp_C_free ho, Option.bind_some, tp_M_freeOn I R ho, Option.bind_some]
        by_cases z : tp_fr σ o < 2
        · refine ⟨-1, σ, τ, ?_, ?_, I, R, rfl, .inl ⟨rfl, rfl⟩⟩
          · rw [if_pos z, if_pos rfl]
          · rw [if_pos z, if_neg (by decide)]
        · rw [if_neg z, if_neg z]
          have f2 : tp_cn σ o + 2 ≤ tp_pl σ o := by
            obtain ⟨i1, i2, i3⟩ := I.pl ho
            rw [tp_frN I ho] at z
            have w := mt (tp_nI_lt (i := tp_pl σ o - tp_cn σ o) (j := 2) (by omega) (by omega)).mpr z
            omega
          rcases tp_room_sim I R ho fo with ⟨_, b1, b2⟩ | ⟨c', a, σ1, τ1, hc', ha, _, oa, oo, hs, b1, b2, I1, R1, t1, _, ⟨s0, s2, s3, s6⟩, c1⟩
          · refine ⟨-1, σ, τ, ?_, ?_, I, R, rfl, .inl ⟨rfl, rfl⟩⟩
            · rw [b1, Option.bind_some, if_pos rfl]
            · rw [b2, Option.bind_some]; exact if_neg (show ¬ (0 : Int32) ≤ -1 by decide)
          · have hoa : o ≠ a := fun w => by rw [w, oa] at oo; cases oo
            have t0 : (true).toNat = 1 := rfl
            have t2 : (false).toNat = 0 := rfl
            have e1 := c1 o ho
            have e2 := c1 a ha
            rw [decide_eq_false hoa, decide_eq_true rfl] at e1
            rw [decide_eq_true rfl, decide_eq_false (fun w => hoa w.symm)] at e2
            have pp : ∀ e, tp_pl σ1 e = tp_pl σ e := fun e => by rw [tp_pl, tp_pl, s0]
            have i3 := (I.pl ha).2.2
            have p1 : 0 ≤ tp_nI a := Int32.not_lt.mp (tp_nI_nn (by omega))
            obtain ⟨σ', τ', a1, a2, a3, a4, a5, a6⟩ := tp_create_sim I1 R1 hc (by rw [s3]; exact h3) ho ha hoa (by rw [pp]; omega) (by rw [pp]; omega)
            refine ⟨tp_nI c, σ', τ', ?_, ?_, a3, a4, a5.trans t1, .inr ⟨⟨c, hc, rfl⟩, ?_⟩⟩
            · rw [b1, Option.bind_some]
              show (if tp_nI a = -1 then _ else _) = _
              rw [if_neg (tp_nI_m (by omega))]; exact a1
            · rw [b2, Option.bind_some]
              show (if 0 ≤ tp_nI a then _ else _) = _
              rw [if_pos p1]; exact a2
            · rw [a6]; unfold tp_al; rw [s3]
end
section
def tp_wt (σ : tp_St) (c : Nat) : Nat := (tp_dg σ c).toNat + tp_cntF (fun e => tp_oN σ c e && decide (σ 2 e ≠ 0)) 12
def tp_mu (σ : tp_St) : Nat := tp_sumF (tp_wt σ) 400
theorem tp_mu_le (σ : tp_St) : tp_mu σ ≤ 5200 := by
  have h := tp_sumF_le (f := tp_wt σ) (b := 13) (n := 400) (fun i _ => by
    have h1 : (tp_dg σ i).toNat ≤ 1 := by cases tp_dg σ i <;> decide
    have h2 := tp_cntF_le (fun e => tp_oN σ i e && decide (σ 2 e ≠ 0)) 12
    unfold tp_wt
    omega)
  unfold tp_mu
  omega
def tp_tk (σ : tp_St) (c : Nat) : Bool := (tp_eM (tp_qO σ c) (tp_fr σ) 12).isSome
theorem tp_tk_of {σ : tp_St} {c e : Nat} (he : e < 12) (ho : tp_oN σ c e = false) (hs : tp_sy σ e = true) (hf : 0 < tp_fr σ e) : tp_tk σ c = true := by
  obtain ⟨d, hd⟩ := tp_eM_ex (q := tp_qO σ c) (f := tp_fr σ) he (by rw [tp_qO, ho, hs]; rfl) hf
  rw [tp_tk, hd]; rfl
theorem tp_tk_no {σ : tp_St} {c e : Nat} (h : tp_tk σ c = false) (he : e < 12) (hs : tp_sy σ e = true) (hf : 0 < tp_fr σ e) : tp_oN σ c e = true := by
  cases ho : tp_oN σ c e with
  | true => rfl
  | false => rw [tp_tk_of he ho hs hf] at h; cases h
theorem tp_tk_some {σ : tp_St} {c : Nat} (h : tp_tk σ c = true) : ∃ e, tp_eM (tp_qO σ c) (tp_fr σ) 12 = some e ∧ e < 12 ∧ tp_oN σ c e = false ∧ tp_sy σ e = true ∧ 0 < tp_fr σ e := by
  rw [tp_tk, Option.isSome_iff_exists] at h
  obtain ⟨e, he⟩ := h
  obtain ⟨h1, h2, h3⟩ := tp_eM_some he
  rw [tp_qO, Bool.and_eq_true, Bool.not_eq_true'] at h2
  exact ⟨e, he, h1, h2.1, h2.2, h3⟩
theorem tp_tk_none {σ : tp_St} {c : Nat} (h : tp_tk σ c = false) : tp_eM (tp_qO σ c) (tp_fr σ) 12 = none := by
  rw [tp_tk] at h
  cases he : tp_eM (tp_qO σ c) (tp_fr σ) 12 with
  | none => rfl
  | some e => rw [he] at h; cases h
theorem tp_dg_V {σ : tp_St} {c : Nat} (hV : tp_VV (σ 4 c) (σ 5 c)) (h : tp_dg σ c = true) : ∃ a, a < 12 ∧ σ 4 c = tp_nI a ∧ σ 5 c = -1 := by
  have h1 : tp_nc σ c = 1 := of_decide_eq_true h
  rcases hV with ⟨h2, h3⟩ | ⟨a, ha, h2, h3⟩ | ⟨a, b, hab, hb, h2, h3⟩
  · rw [tp_nc, h2, if_pos rfl] at h1; omega
  · exact ⟨a, ha, h2, h3⟩
  · rw [tp_nc, h2, h3, if_neg (tp_nI_m (by omega)), if_neg (tp_nI_m (by omega))] at h1; omega
theorem tp_oN_1 {σ : tp_St} {c a e : Nat} (h4 : σ 4 c = tp_nI a) (h5 : σ 5 c = -1) (ha : a < 12) (he : e < 12) : tp_oN σ c e = decide (e = a) := by
  rw [tp_oN, h4, h5, decide_eq_false (tp_nI_m' (i := e) (by omega)), Bool.or_false]
  exact decide_eq_decide.mpr ⟨fun z => ((tp_nI_eq (by omega) (by omega)).mp z).symm, fun z => by rw [z]⟩
theorem tp_dg_ex {σ : tp_St} (I : tp_Inv σ) {c : Nat} (hc : c < 400) (h : tp_dg σ c = true) : σ 3 c = 1 := by
  obtain ⟨a, ha, h4, h5⟩ := tp_dg_V (I.vv hc) h
  exact I.ex hc (by rw [h4]; exact tp_nI_m (by omega))
theorem tp_qBO1 {σ : tp_St} {c a : Nat} (h4 : σ 4 c = tp_nI a) (h5 : σ 5 c = -1) (ha : a < 12) : tp_eM (tp_qB σ (σ 4 c)) (tp_fr σ) 12 = tp_eM (tp_qO σ c) (tp_fr σ) 12 :=
  tp_eM_congr (fun e he => by
    rw [tp_qB, tp_qO, tp_oN_1 h4 h5 ha he, h4]
    congr 1
    by_cases z : e = a
    · rw [z, decide_eq_true rfl, decide_eq_false (fun w => w rfl)]; rfl
    · rw [decide_eq_false z, decide_eq_true (show tp_nI e ≠ tp_nI a from fun w => z ((tp_nI_eq (by omega) (by omega)).mp w))]; rfl)
theorem tp_mv_cnt {p : Nat → Bool} {a b : Nat} (ha : a < 12) (hb : b < 12) (pa : p a = true) (pb : p b = false) : tp_cntF (fun e => (p e && !decide (e = a)) || decide (e = b)) 12 = tp_cntF p 12 := by
  have hab : b ≠ a := fun z => by rw [z, pa] at pb; cases pb
  have k1 : tp_sumF (fun e => (p e && !decide (e = a)).toNat) 12 + (p a).toNat = tp_sumF (fun e => (p e).toNat) 12 + (p a && !decide (a = a)).toNat := tp_sumF_upd (f := fun e => (p e && !decide (e = a)).toNat) (g := fun e => (p e).toNat) (c := a) (n := 12) ha (fun e _ hne => by show (p e && !decide (e = a)).toNat = _; rw [decide_eq_false hne]; exact congrArg Bool.toNat (Bool.and_true _))
  have k2 : tp_sumF (fun e => ((p e && !decide (e = a)) || decide (e = b)).toNat) 12 + (p b && !decide (b = a)).toNat = tp_sumF (fun e => (p e && !decide (e = a)).toNat) 12 + ((p b && !decide (b = a)) || decide (b = b)).toNat := tp_sumF_upd (f := fun e => ((p e && !decide (e = a)) || decide (e = b)).toNat) (g := fun e => (p e && !decide (e = a)).toNat) (c := b) (n := 12) hb (fun e _ hne => by show ((p e && !decide (e = a)) || decide (e = b)).toNat = _; rw [decide_eq_false hne, Bool.or_false])
  have e1 : (p a && !decide (a = a)).toNat = 0 := by rw [decide_eq_true rfl, pa]; rfl
  have e2 : (p b && !decide (b = a)).toNat = 0 := by rw [pb]; rfl
  have e3 : ((p b && !decide (b = a)) || decide (b = b)).toNat = 1 := by rw [decide_eq_true (rfl : b = b), Bool.or_true]; rfl
  have e4 : (p a).toNat = 1 := by rw [pa]; rfl
  show tp_sumF (fun e => ((p e && !decide (e = a)) || decide (e = b)).toNat) 12 = tp_sumF (fun e => (p e).toNat) 12
  rw [e1, e4] at k1
  rw [e2, e3] at k2
  omega
def tp_pM (σ : tp_St) (c : Nat) : Bool := tp_dg σ c && tp_tk σ c
theorem tp_C_mend {σ : tp_St} (I : tp_Inv σ) : fC_mendOne σ = (tp_findF (tp_pM σ) 400 0).elim (some (0, σ)) (fun c => (fC_addCopy σ (tp_nI c) (tp_enc (tp_eM (tp_qO σ c) (tp_fr σ) 12))).bind fun q => some (1, q)) := by
  refine tp_find_loop0 (F := fun n x => fC_mendOne_L2 n x σ) (N := 400) ?_ ?_
  · show fC_mendOne_L2 1 (tp_nI 400) σ = _
    rw [fC_mendOne_L2, if_pos (by decide)]
  · intro n i hi
    show fC_mendOne_L2 (n + 1) (tp_nI i) σ = _
    rw [fC_mendOne_L2, if_neg (tp_g4 hi), tp_C_deg hi, Option.bind_some, tp_if_bI, tp_pM]
    cases hg : tp_dg σ i with
    | false => rfl
    | true =>
      obtain ⟨a, ha, h4, h5⟩ := tp_dg_V (I.vv hi) hg
      rw [if_pos rfl, if_neg (tp_b4 hi), tp_t4 hi, tp_C_emp, Option.bind_some, tp_qBO1 h4 h5 ha, Bool.true_and, tp_tk]
      cases he : tp_eM (tp_qO σ i) (tp_fr σ) 12 with
      | none => rfl
      | some e => 
        show (if tp_nI e = -1 then _ else _) = _
        rw [if_neg (tp_nI_m (by have := tp_eM_12 (Nat.le_refl _) he; omega))]; rfl
theorem tp_M_mend {σ τ : tp_St} (I : tp_Inv σ) (R : tp_Rel tp_noX σ τ) : fM_copyOne τ = (tp_findF (tp_pM σ) 400 0).elim (some ((0 : Int32), τ)) (fun c => some ((1 : Int32), tp_up τ 4 c (τ 4 c + 1 <<< (tp_enc (tp_eM (tp_qO σ c) (tp_fr σ) 12) &&& 31)))) := by
  refine tp_find_loop0 (F := fun n x => fM_copyOne_L2 n x τ) (N := 400) ?_ ?_
  · show fM_copyOne_L2 1 (tp_nI 400) τ = _
    rw [fM_copyOne_L2, if_pos (by decide)]
  · intro n i hi
    show fM_copyOne_L2 (n + 1) (tp_nI i) τ = _
    rw [fM_copyOne_L2, if_neg (tp_g4 hi), if_neg (tp_b4 hi), tp_t4 hi, R.th hi, tp_M_howMany I R hi, Option.bind_some, tp_pM]
    have hn := tp_nc_lt σ i
    cases hg : tp_dg σ i with
    | false =>
      have : ¬ tp_nI (tp_nc σ i) = 1 := fun z => by
        have z' := (tp_nI_eq (j := 1) (by omega) (by omega)).mp z
        rw [tp_dg, decide_eq_true z'] at hg; cases hg
      rw [if_neg this]; exact ite_self _
    | true =>
      have : tp_nI (tp_nc σ i) = 1 := by rw [show tp_nc σ i = 1 from of_decide_eq_true hg]; rfl
      rw [if_neg (by rw [tp_dg_ex I hi hg]; decide), if_pos this, tp_M_emp2 I R hi, Option.bind_some, Bool.true_and, tp_tk]
      cases he : tp_eM (tp_qO σ i) (tp_fr σ) 12 with
      | none => rfl
      | some e =>
        show (if tp_nI e < 0 then _ else _) = _
        rw [if_neg (tp_nI_nn (by have := tp_eM_12 (Nat.le_refl _) he; omega))]; rfl
theorem tp_mend_sim {σ τ : tp_St} (I : tp_Inv σ) (R : tp_Rel tp_noX σ τ) :
    ((∀ c, c < 400 → tp_dg σ c = true → tp_tk σ c = false) ∧ fC_mendOne σ = some (0, σ) ∧ fM_copyOne τ = some (0, τ)) ∨
    ∃ σ' τ', fC_mendOne σ = some (1, σ') ∧ fM_copyOne τ = some (1, τ') ∧ tp_Inv σ' ∧ tp_Rel tp_noX σ' τ' ∧ τ' 0 = τ 0 ∧ tp_mu σ' < tp_mu σ := by
  rw [tp_C_mend I, tp_M_mend I R]
  cases hf : tp_findF (tp_pM σ) 400 0 with
  | none =>
    refine .inl ⟨fun c hc h => ?_, rfl, rfl⟩
    have := tp_findF_none hf c (by omega) (by omega)
    rw [tp_pM, h, Bool.true_and] at this
    exact this
  | some c =>
    obtain ⟨_, k1, k2, _⟩ := tp_findF_some hf
    have hc : c < 400 := by omega
    rw [tp_pM, Bool.and_eq_true] at k2
    obtain ⟨e, he, h1, h2, h3, h4⟩ := tp_tk_some k2.2
    have hn : tp_nc σ c = 1 := of_decide_eq_true k2.1
    obtain ⟨σ', r1, I1, o1, ⟨p0, p2, p3, p6, p7⟩, c1, R1⟩ := tp_add_spec I hc h1 (tp_dg_ex I hc k2.1) (by omega) h2 ((tp_fr_pos I h1).mp h4)
    refine .inr ⟨σ', _, ?_, ?_, I1, R1 tp_noX τ R, rfl, ?_⟩
    · show (fC_addCopy σ (tp_nI c) (tp_enc (tp_eM (tp_qO σ c) (tp_fr σ) 12))).bind _ = _
      rw [he]
      show (fC_addCopy σ (tp_nI c) (tp_nI e)).bind _ = _
      rw [r1]; rfl
    · show some ((1 : Int32), tp_up τ 4 c (τ 4 c + 1 <<< (tp_enc (tp_eM (tp_qO σ c) (tp_fr σ) 12) &&& 31))) = _
      rw [he]
      show some ((1 : Int32), tp_up τ 4 c (τ 4 c + 1 <<< (tp_nI e &&& 31))) = _
      rw [tp_bt_n h1]
    · have kw : ∀ i, i < 400 → i ≠ c → tp_wt σ' i = tp_wt σ i := fun i hi hne => by
        have hoi : ∀ x, x < 12 → tp_oN σ' i x = tp_oN σ i x := fun x hx => by rw [o1 i x hx, decide_eq_false hne, Bool.false_and, Bool.or_false]
        unfold tp_wt tp_dg
        rw [← tp_nc_cnt (I1.vv hi), ← tp_nc_cnt (I.vv hi), p2]
        rw [show tp_cntF (fun x => tp_oN σ' i x) 12 = tp_cntF (fun x => tp_oN σ i x) 12 from tp_cntF_congr (fun x hx => by rw [hoi x hx]), show tp_cntF (fun x => tp_oN σ' i x && decide (σ 2 x ≠ 0)) 12 = tp_cntF (fun x => tp_oN σ i x && decide (σ 2 x ≠ 0)) 12 from tp_cntF_congr (fun x hx => by rw [hoi x hx])]
      have k := tp_sumF_upd (f := tp_wt σ') (g := tp_wt σ) (c := c) (n := 400) hc kw
      have hlv : tp_cntF (fun x => tp_oN σ' c x && decide (σ' 2 x ≠ 0)) 12 = tp_cntF (fun x => tp_oN σ c x && decide (σ 2 x ≠ 0)) 12 := tp_cntF_congr (fun x hx => by
        rw [o1 c x hx, p2]
        by_cases z : x = e
        · rw [z, (tp_sy_iff.mp h3).2, decide_eq_false (fun w : (0 : Int32) ≠ 0 => w rfl), Bool.and_false, Bool.and_false]
        · rw [decide_eq_false z, Bool.and_false, Bool.or_false])
      have hn2 : tp_nc σ' c = 2 := by
        rw [← tp_nc_cnt (I1.vv hc)]
        have q := tp_sumF_upd (f := fun x => (tp_oN σ' c x).toNat) (g := fun x => (tp_oN σ c x).toNat) (c := e) (n := 12) h1 (fun x hx hne => by show (tp_oN σ' c x).toNat = _; rw [o1 c x hx, decide_eq_false hne, Bool.and_false, Bool.or_false])
        have q1 : tp_oN σ' c e = true := by rw [o1 c e h1, decide_eq_true rfl, decide_eq_true rfl, Bool.and_true, Bool.or_true]
        have q2 : tp_cntF (fun x => tp_oN σ' c x) 12 + (tp_oN σ c e).toNat = tp_cntF (fun x => tp_oN σ c x) 12 + (tp_oN σ' c e).toNat := q
        rw [tp_nc_cnt (I.vv hc), h2, q1] at q2
        have t1 : (true).toNat = 1 := rfl
        have t2 : (false).toNat = 0 := rfl
        omega
      have w1 : tp_wt σ c = 1 + tp_cntF (fun x => tp_oN σ c x && decide (σ 2 x ≠ 0)) 12 := by unfold tp_wt; rw [k2.1]; rfl
      have w2 : tp_wt σ' c = 0 + tp_cntF (fun x => tp_oN σ c x && decide (σ 2 x ≠ 0)) 12 := by unfold tp_wt; rw [hlv, tp_dg, hn2]; rfl
      unfold tp_mu
      omega
theorem tp_mu_room {σ σ' : tp_St} (I : tp_Inv σ) (I1 : tp_Inv σ') {c a D : Nat} (hc : c < 400) (ha : a < 12) (hD : D < 12) (oa : tp_oN σ c a = true) (oD : tp_oN σ c D = false) (sa : tp_sy σ a = true) (sD : tp_sy σ D = true) (o1 : ∀ c' e, e < 12 → tp_oN σ' c' e = tp_mvO σ c a D c' e) (p2 : σ' 2 = σ 2) :
    tp_mu σ' = tp_mu σ ∧ (∀ i, i < 400 → tp_dg σ' i = tp_dg σ i) := by
  have hn : ∀ i, i < 400 → tp_nc σ' i = tp_nc σ i := fun i hi => by
    rw [← tp_nc_cnt (I1.vv hi), ← tp_nc_cnt (I.vv hi)]
    by_cases z : i = c
    · rw [z, show tp_cntF (fun e => tp_oN σ' c e) 12 = tp_cntF (fun e => (tp_oN σ c e && !decide (e = a)) || decide (e = D)) 12 from tp_cntF_congr (fun e he => by rw [o1 c e he, tp_mvO, if_pos rfl])]
      exact tp_mv_cnt ha hD oa oD
    · exact tp_cntF_congr (fun e he => by rw [o1 i e he, tp_mvO, if_neg z])
  have hd : ∀ i, i < 400 → tp_dg σ' i = tp_dg σ i := fun i hi => by rw [tp_dg, tp_dg, hn i hi]
  refine ⟨tp_sumF_congr (fun i hi => ?_), hd⟩
  unfold tp_wt
  rw [hd i hi, p2]
  congr 1
  refine tp_cntF_congr (fun e he => ?_)
  rw [o1 i e he, tp_mvO]
  by_cases z : i = c
  · rw [if_pos z, z]
    by_cases w : e = a
    · rw [w, (tp_sy_iff.mp sa).2, decide_eq_false (fun v : (0 : Int32) ≠ 0 => v rfl), Bool.and_false, Bool.and_false]
    · by_cases v : e = D
      · rw [v, (tp_sy_iff.mp sD).2, decide_eq_false (fun v : (0 : Int32) ≠ 0 => v rfl), Bool.and_false, Bool.and_false]
      · rw [decide_eq_false w, decide_eq_false v, Bool.not_false, Bool.and_true, Bool.or_false]
  · rw [if_neg z]
def tp_g1 (σ : tp_St) : Prop := ∃ c, c < 400 ∧ tp_dg σ c = true ∧ tp_tk σ c = true
def tp_g3 (σ : tp_St) : Prop := (∀ c, c < 400 → tp_dg σ c = false) ∧ ∃ d c, d < 12 ∧ c < 400 ∧ σ 2 d ≠ 0 ∧ tp_oN σ c d = true ∧ tp_tk σ c = true
def tp_pR (σ : tp_St) (c : Nat) (x : Int32) (e : Nat) : Bool := decide (tp_nI e ≠ x) && (tp_oN σ c e && (tp_sy σ e && (decide (0 < tp_fr σ e) && (tp_fR σ e).isSome)))
theorem tp_M_rf {σ τ : tp_St} (I : tp_Inv σ) (R : tp_Rel tp_noX σ τ) {c : Nat} (hc : c < 400) (x : Int32) : fM_roomFor τ (tp_nI c) x = (tp_findF (tp_pR σ c x) 12 0).elim (some (0, τ)) (fun e => (fM_makeRoom τ (tp_nI e)).bind fun q => some (1, q.2)) := by
  refine tp_find_loop0 (F := fun n y => fM_roomFor_L2 (tp_nI c) x n y τ) (N := 12) ?_ ?_
  · show fM_roomFor_L2 (tp_nI c) x 1 (tp_nI 12) τ = _
    rw [fM_roomFor_L2, if_pos (by decide)]
  · intro n e he
    show fM_roomFor_L2 (tp_nI c) x (n + 1) (tp_nI e) τ = _
    rw [fM_roomFor_L2, if_neg (tp_gd he), tp_M_isOn I R hc he, Option.bind_some, tp_if_bI, tp_M_stays R he, Option.bind_some, tp_if_bI, tp_M_freeOn I R he, Option.bind_some, tp_pR]
    by_cases y : tp_nI e = x
    · rw [if_pos y, decide_eq_false (fun w => w y)]; rfl
    · rw [if_neg y, decide_eq_true y, Bool.true_and]
      cases tp_oN σ c e with
      | false => rfl
      | true =>
        cases hs : tp_sy σ e with
        | false => rfl
        | true =>
          rw [if_pos rfl, if_pos rfl, Bool.true_and, Bool.true_and]
          by_cases z : 0 < tp_fr σ e
          · rw [if_neg (Int32.not_le.mpr z), decide_eq_true z, Bool.true_and]
            rcases tp_room_sim I R he ((tp_fr_pos I he).mp z) with ⟨h1, b1, b2⟩ | ⟨c', a, σ', τ', hc', ha, h1, oa, oo, hs', b1, b2, _⟩
            · rw [b2, Option.bind_some, h1]
              show (if (-1 : Int32) < 0 then _ else _) = _
              rw [if_pos (by decide)]; rfl
            · rw [b2, Option.bind_some, Option.bind_some, h1]
              show (if tp_nI a < 0 then _ else _) = _
              rw [if_neg (tp_nI_nn (by omega))]; rfl
          · rw [if_pos (Int32.not_lt.mp z), decide_eq_false z]; rfl
def tp_pW (σ : tp_St) (c : Nat) : Bool := tp_dg σ c && tp_swr σ (σ 4 c)
theorem tp_C_rtm {σ : tp_St} (I : tp_Inv σ) : fC_makeRoomToMend σ = (tp_findF (tp_pW σ) 400 0).elim (some (0, σ)) (fun c => (fC_makeRoomBeside σ (σ 4 c)).bind fun q => if q.1 = -1 then some (0, q.2) else some (1, q.2)) := by
  refine tp_find_loop0 (F := fun n x => fC_makeRoomToMend_L2 n x σ) (N := 400) ?_ ?_
  · show fC_makeRoomToMend_L2 1 (tp_nI 400) σ = _
    rw [fC_makeRoomToMend_L2, if_pos (by decide)]
  · intro n i hi
    show fC_makeRoomToMend_L2 (n + 1) (tp_nI i) σ = _
    rw [fC_makeRoomToMend_L2, if_neg (tp_g4 hi), tp_C_deg hi, Option.bind_some, tp_if_bI, if_neg (tp_b4 hi), tp_t4 hi, tp_C_swr (I.vv hi).l, Option.bind_some, tp_if_bI, tp_pW]
    cases tp_dg σ i with
    | false => rfl
    | true => cases tp_swr σ (σ 4 i) <;> rfl
def tp_pQ (σ : tp_St) (c : Nat) : Bool := tp_dg σ c && (tp_findF (tp_pR σ c (-1)) 12 0).isSome
theorem tp_M_rtm {σ τ : tp_St} (I : tp_Inv σ) (R : tp_Rel tp_noX σ τ) : fM_roomForOne τ = (tp_findF (tp_pQ σ) 400 0).elim (some (0, τ)) (fun c => fM_roomFor τ (tp_nI c) (-1)) := by
  refine tp_find_loop0 (F := fun n x => fM_roomForOne_L2 n x τ) (N := 400) ?_ ?_
  · show fM_roomForOne_L2 1 (tp_nI 400) τ = _
    rw [fM_roomForOne_L2, if_pos (by decide)]
  · intro n i hi
    show fM_roomForOne_L2 (n + 1) (tp_nI i) τ = _
    rw [fM_roomForOne_L2, if_neg (tp_g4 hi), if_neg (tp_b4 hi), tp_t4 hi, R.th hi, tp_M_howMany I R hi, Option.bind_some, tp_pQ]
    have hn := tp_nc_lt σ i
    cases hg : tp_dg σ i with
    | false =>
      have : ¬ tp_nI (tp_nc σ i) = 1 := fun z => by
        have z' := (tp_nI_eq (j := 1) (by omega) (by omega)).mp z
        rw [tp_dg, decide_eq_true z'] at hg; cases hg
      rw [if_neg this]; exact ite_self _
    | true =>
      have : tp_nI (tp_nc σ i) = 1 := by rw [show tp_nc σ i = 1 from of_decide_eq_true hg]; rfl
      rw [if_neg (by rw [tp_dg_ex I hi hg]; decide), if_pos this, tp_M_rf I R hi, Bool.true_and]
      cases hf : tp_findF (tp_pR σ i (-1)) 12 0 with
      | none => rfl
      | some e =>
        obtain ⟨_, k1, k2, _⟩ := tp_findF_some hf
        rw [tp_pR, Bool.and_eq_true, Bool.and_eq_true, Bool.and_eq_true, Bool.and_eq_true] at k2
        rcases tp_room_sim I R (show e < 12 by omega) ((tp_fr_pos I (by omega)).mp (of_decide_eq_true k2.2.2.2.1)) with ⟨h1, _⟩ | ⟨c', a, σ', τ', hc', ha, h1, oa, oo, hs', b1, b2, _⟩
        · rw [h1] at k2; exact absurd k2.2.2.2.2 (by decide)
        · show ((fM_makeRoom τ (tp_nI e)).bind fun q => some (1, q.2)).bind _ = (fM_makeRoom τ (tp_nI e)).bind fun q => some (1, q.2)
          rw [b2]; rfl
end
section
theorem tp_pR_iff {σ : tp_St} {c : Nat} {x : Int32} {e : Nat} : tp_pR σ c x e = true ↔ tp_nI e ≠ x ∧ tp_oN σ c e = true ∧ tp_sy σ e = true ∧ 0 < tp_fr σ e ∧ (tp_fR σ e).isSome = true := by
  rw [tp_pR, Bool.and_eq_true, Bool.and_eq_true, Bool.and_eq_true, Bool.and_eq_true, decide_eq_true_eq, decide_eq_true_eq]
theorem tp_swr_n {σ : tp_St} {d : Nat} (hd : d < 12) : tp_swr σ (tp_nI d) = true ↔ tp_sy σ d = true ∧ 0 < tp_fr σ d := by rw [tp_swr, tp_syv_n σ hd, tp_td hd, Bool.and_eq_true, decide_eq_true_eq]
theorem tp_swr_m {σ : tp_St} : tp_swr σ (-1) = false := by rw [tp_swr, tp_syv_m]; rfl
theorem tp_fr_room {σ σ' : tp_St} (I1 : tp_Inv σ') {a D : Nat} (ha : a < 12) (p0 : σ' 0 = σ 0) (c1 : tp_cn σ' a + 1 = tp_cn σ a) (i3 : tp_cn σ a ≤ tp_pl σ a) : 0 < tp_fr σ' a := by
  refine (tp_fr_pos I1 ha).mpr ?_
  have : tp_pl σ' a = tp_pl σ a := by rw [tp_pl, tp_pl, p0]
  omega
theorem tp_rtm_sim {σ τ : tp_St} (I : tp_Inv σ) (R : tp_Rel tp_noX σ τ) (hm : ∀ c, c < 400 → tp_dg σ c = true → tp_tk σ c = false) :
    ((∀ c, c < 400 → tp_dg σ c = true → ∀ D, D < 12 → tp_oN σ c D = true → tp_sy σ D = true → 0 < tp_fr σ D → tp_fR σ D = none) ∧ fC_makeRoomToMend σ = some (0, σ) ∧ fM_roomForOne τ = some (0, τ)) ∨
    ∃ σ' τ', fC_makeRoomToMend σ = some (1, σ') ∧ fM_roomForOne τ = some (1, τ') ∧ tp_Inv σ' ∧ tp_Rel tp_noX σ' τ' ∧ τ' 0 = τ 0 ∧ tp_mu σ' = tp_mu σ ∧ tp_g1 σ' ∧ ∃ c, c < 400 ∧ tp_dg σ c = true := by
  rw [tp_C_rtm I, tp_M_rtm I R]
  have hp : ∀ c, c < 400 → tp_pQ σ c = true → tp_pW σ c = true := fun c hc h => by
    rw [tp_pQ, Bool.and_eq_true, Option.isSome_iff_exists] at h
    obtain ⟨hg, e, he⟩ := h
    obtain ⟨a, ha, h4, h5⟩ := tp_dg_V (I.vv hc) hg
    obtain ⟨_, k1, k2, _⟩ := tp_findF_some he
    obtain ⟨_, ho, hs, hf, _⟩ := tp_pR_iff.mp k2
    rw [tp_oN_1 h4 h5 ha (by omega), decide_eq_true_eq] at ho
    rw [tp_pW, hg, h4, Bool.true_and, tp_swr_n ha, ← ho]
    exact ⟨hs, hf⟩
  cases hf : tp_findF (tp_pW σ) 400 0 with
  | none =>
    have hno := tp_findF_none hf
    have hq : tp_findF (tp_pQ σ) 400 0 = none := tp_findF_no (fun c hc => by
      cases h : tp_pQ σ c with
      | false => rfl
      | true => have := hno c (by omega) (by omega); rw [hp c hc h] at this; cases this)
    refine .inl ⟨fun c hc hg D hD ho hs hfr => ?_, rfl, by rw [hq]; rfl⟩
    obtain ⟨a, ha, h4, h5⟩ := tp_dg_V (I.vv hc) hg
    rw [tp_oN_1 h4 h5 ha hD, decide_eq_true_eq] at ho
    have := hno c (by omega) (by omega)
    rw [tp_pW, hg, Bool.true_and, h4, ← ho, (tp_swr_n hD).mpr ⟨hs, hfr⟩] at this
    cases this
  | some c =>
    obtain ⟨_, k1, k2, k3⟩ := tp_findF_some hf
    have hc : c < 400 := by omega
    rw [tp_pW, Bool.and_eq_true] at k2
    obtain ⟨D, hD, h4, h5⟩ := tp_dg_V (I.vv hc) k2.1
    have hsw := k2.2
    rw [h4, tp_swr_n hD] at hsw
    have hall : ∀ e, e < 12 → tp_sy σ e = true → 0 < tp_fr σ e → e = D := fun e he hs hfr => by
      have := tp_tk_no (hm c hc k2.1) he hs hfr
      rw [tp_oN_1 h4 h5 hD he, decide_eq_true_eq] at this
      exact this
    rcases tp_room_sim I R hD ((tp_fr_pos I hD).mp hsw.2) with ⟨h1, b1, b2⟩ | ⟨c', a, σ', τ', hc', ha, h1, oa, oo, hs', b1, b2, I1, R1, t0, o1, ⟨s0, s2, s3, s6⟩, c1⟩
    · have hq : tp_findF (tp_pQ σ) 400 0 = none := tp_findF_no (fun i hi => by
        cases h : tp_pQ σ i with
        | false => rfl
        | true =>
          rw [tp_pQ, Bool.and_eq_true, Option.isSome_iff_exists] at h
          obtain ⟨_, e, he⟩ := h
          obtain ⟨_, q1, q2, _⟩ := tp_findF_some he
          obtain ⟨_, _, hs, hfr, hr⟩ := tp_pR_iff.mp q2
          rw [hall e (by omega) hs hfr, h1] at hr; cases hr)
      refine .inl ⟨fun i hi _ e he _ hs hfr => by rw [hall e he hs hfr]; exact h1, ?_, by rw [hq]; rfl⟩
      show (fC_makeRoomBeside σ (σ 4 c)).bind _ = _
      rw [h4, b1]; rfl
    · have hfD : tp_findF (tp_pR σ c (-1)) 12 0 = some D := tp_findF_is hD (tp_pR_iff.mpr ⟨tp_nI_m (by omega), by rw [tp_oN_1 h4 h5 hD hD]; exact decide_eq_true rfl, hsw.1, hsw.2, by rw [h1]; rfl⟩) (fun e he => by
        rw [tp_pR, tp_oN_1 h4 h5 hD (by omega), decide_eq_false (show ¬ e = D from by omega), Bool.false_and, Bool.and_false])
      have hq : tp_findF (tp_pQ σ) 400 0 = some c := tp_findF_is hc (by rw [tp_pQ, k2.1, hfD]; rfl) (fun i hi => by
        cases h : tp_pQ σ i with
        | false => rfl
        | true => have := k3 i (by omega) hi; rw [hp i (by omega) h] at this; cases this)
      have hcc : c ≠ c' := fun z => by
        rw [← z, tp_oN_1 h4 h5 hD hD, decide_eq_true rfl] at oo; cases oo
      have haD : a ≠ D := fun z => by rw [z, oo] at oa; cases oa
      have oc : ∀ e, e < 12 → tp_oN σ' c e = tp_oN σ c e := fun e he => by rw [o1 c e he, tp_mvO, if_neg hcc]
      obtain ⟨m1, m2⟩ := tp_mu_room I I1 hc' ha hD oa oo hs' hsw.1 o1 s2
      have ca := c1 a ha
      rw [decide_eq_true rfl, decide_eq_false haD, show (true).toNat = 1 from rfl, show (false).toNat = 0 from rfl] at ca
      refine .inr ⟨σ', τ', ?_, ?_, I1, R1, t0, m1, ⟨c, hc, by rw [m2 c hc]; exact k2.1, ?_⟩, c, hc, k2.1⟩
      · show (fC_makeRoomBeside σ (σ 4 c)).bind _ = _
        rw [h4, b1, Option.bind_some]
        show (if tp_nI a = -1 then _ else _) = _
        rw [if_neg (tp_nI_m (by omega))]
      · rw [hq]
        show fM_roomFor τ (tp_nI c) (-1) = _
        rw [tp_M_rf I R hc, hfD]
        show (fM_makeRoom τ (tp_nI D)).bind _ = _
        rw [b2]; rfl
      · refine tp_tk_of ha ?_ ?_ (tp_fr_room (D := D) I1 ha s0 (by omega) (I.pl ha).2.2)
        · rw [oc a ha, tp_oN_1 h4 h5 hD ha]; exact decide_eq_false haD
        · rw [tp_sy_iff, s0, s2]; exact tp_sy_iff.mp hs'
theorem tp_ot_on {σ : tp_St} {c d e : Nat} (hV : tp_VV (σ 4 c) (σ 5 c)) (hd : d < 12) (he : e < 12) (ho : tp_oN σ c d = true) (hne : e ≠ d) : tp_oN σ c e = decide (tp_ot σ c d = tp_nI e) := by
  have k := (tp_ot_V hV hd ho).2.2 e he
  rw [decide_eq_false (tp_nI_m' (i := e) (by omega)), Bool.or_false, decide_eq_false hne, Bool.not_false, Bool.and_true] at k
  exact k.symm
theorem tp_ot_D {σ : tp_St} {c d : Nat} (hV : tp_VV (σ 4 c) (σ 5 c)) : tp_DD (tp_ot σ c d) := by
  unfold tp_ot
  by_cases z : σ 4 c = tp_nI d
  · rw [if_pos z]; exact hV.g
  · rw [if_neg z]; exact hV.l
theorem tp_qBO3 {σ : tp_St} {c d : Nat} (I : tp_Inv σ) (hc : c < 400) (hd : d < 12) (hl : σ 2 d ≠ 0) (ho : tp_oN σ c d = true) : tp_eM (tp_qB σ (tp_ot σ c d)) (tp_fr σ) 12 = tp_eM (tp_qO σ c) (tp_fr σ) 12 :=
  tp_eM_congr (fun e he => by
    rw [tp_qB, tp_qO]
    cases hs : tp_sy σ e with
    | false => rw [Bool.and_false, Bool.and_false]
    | true =>
      have hne : e ≠ d := fun z => hl (by rw [← z]; exact (tp_sy_iff.mp hs).2)
      rw [tp_ot_on (I.vv hc) hd he ho hne]
      congr 1
      by_cases z : tp_ot σ c d = tp_nI e
      · rw [decide_eq_true z, decide_eq_false (fun w => w z.symm)]; rfl
      · rw [decide_eq_false z, decide_eq_true (show tp_nI e ≠ tp_ot σ c d from fun w => z w.symm)]; rfl)
def tp_pF (σ : tp_St) (d c : Nat) : Bool := tp_oN σ c d && tp_tk σ c
theorem tp_C_offd {σ : tp_St} (I : tp_Inv σ) {d : Nat} (hd : d < 12) (hl : σ 2 d ≠ 0) : fC_moveOneOffDisk σ (tp_nI d) = (tp_findF (tp_pF σ d) 400 0).elim (some (0, σ)) (fun c => (fC_moveCopy σ (tp_nI c) (tp_nI d) (tp_enc (tp_eM (tp_qO σ c) (tp_fr σ) 12))).bind fun q => some (1, q)) := by
  refine tp_find_loop0 (F := fun n x => fC_moveOneOffDisk_L2 (tp_nI d) n x σ) (N := 400) ?_ ?_
  · show fC_moveOneOffDisk_L2 (tp_nI d) 1 (tp_nI 400) σ = _
    rw [fC_moveOneOffDisk_L2, if_pos (by decide)]
  · intro n i hi
    show fC_moveOneOffDisk_L2 (tp_nI d) (n + 1) (tp_nI i) σ = _
    rw [fC_moveOneOffDisk_L2, if_neg (tp_g4 hi), tp_C_isOn' hi d, Option.bind_some, tp_if_bI, tp_C_other hi, Option.bind_some, tp_C_emp, Option.bind_some, tp_pF]
    cases ho : tp_oN σ i d with
    | false => rfl
    | true =>
      rw [if_pos rfl, tp_qBO3 I hi hd hl ho, Bool.true_and, tp_tk]
      cases he : tp_eM (tp_qO σ i) (tp_fr σ) 12 with
      | none => rfl
      | some e =>
        show (if tp_nI e = -1 then _ else _) = _
        rw [if_neg (tp_nI_m (by have := tp_eM_12 (Nat.le_refl _) he; omega))]; rfl
theorem tp_off_move {σ τ : tp_St} (I : tp_Inv σ) (R : tp_Rel tp_noX σ τ) {d c : Nat} (hd : d < 12) (hc : c < 400) (hl : σ 2 d ≠ 0) (h : tp_pF σ d c = true) :
    ∃ e σ' τ', tp_eM (tp_qO σ c) (tp_fr σ) 12 = some e ∧ e < 12 ∧ fC_moveCopy σ (tp_nI c) (tp_nI d) (tp_nI e) = some σ' ∧ τ' = tp_up τ 4 c (τ 4 c - 1 <<< (tp_nI d &&& 31) + 1 <<< (tp_nI e &&& 31)) ∧ tp_Inv σ' ∧ tp_Rel (fun x => x = d) σ' τ' ∧ tp_mu σ' < tp_mu σ := by
  rw [tp_pF, Bool.and_eq_true] at h
  obtain ⟨e, he, h1, h2, h3, h4⟩ := tp_tk_some h.2
  obtain ⟨σ', r1, I1, o1, ⟨s3, s6, s7⟩, se, sa, c1, R1⟩ := tp_move_spec I hc hd h1 h.1 h2 ((tp_fr_pos I h1).mp h4)
  refine ⟨e, σ', _, he, h1, r1, rfl, I1, ?_, ?_⟩
  · rw [tp_bt_n hd, tp_bt_n h1]
    exact R1 _ τ (R.mono (fun _ _ z => z.elim)) (fun _ => rfl)
  · have hed : e ≠ d := fun z => by rw [z, h.1] at h2; cases h2
    have h2e : σ 2 e = 0 := (tp_sy_iff.mp h3).2
    have fl : ∀ i x, i < 400 → x < 12 → (tp_oN σ' i x && decide (σ' 2 x ≠ 0)) = (tp_oN σ' i x && decide (σ 2 x ≠ 0)) := fun i x hi hx => by
      by_cases z : x = d
      · rcases sa with w | w
        · rw [z, w.2]
        · have h0 : tp_cn σ' d = 0 := by
            obtain ⟨P, i1, i2, i3⟩ := I1.1 d hd
            rw [w.2.1] at i2
            have := (tp_nI_0 (by omega)).mp i2.symm
            omega
          have : tp_oN σ' i d = false := by
            have this : (tp_oN σ' i d).toNat = 0 := tp_sumF_zero h0 i hi
            cases hh : tp_oN σ' i d with
            | false => rfl
            | true => rw [hh] at this; cases this
          rw [z, this]; rfl
      · rw [(se x z).2]
    have kn : ∀ i, i < 400 → tp_nc σ' i = tp_nc σ i := fun i hi => by
      rw [← tp_nc_cnt (I1.vv hi), ← tp_nc_cnt (I.vv hi)]
      by_cases z : i = c
      · rw [z, show tp_cntF (fun x => tp_oN σ' c x) 12 = tp_cntF (fun x => (tp_oN σ c x && !decide (x = d)) || decide (x = e)) 12 from tp_cntF_congr (fun x hx => by rw [o1 c x hx, tp_mvO, if_pos rfl])]
        exact tp_mv_cnt hd h1 h.1 h2
      · exact tp_cntF_congr (fun x hx => by rw [o1 i x hx, tp_mvO, if_neg z])
    have kw : ∀ i, i < 400 → i ≠ c → tp_wt σ' i = tp_wt σ i := fun i hi hne => by
      unfold tp_wt
      rw [tp_dg, tp_dg, kn i hi]
      congr 1
      refine tp_cntF_congr (fun x hx => ?_)
      rw [fl i x hi hx, o1 i x hx, tp_mvO, if_neg hne]
    have k := tp_sumF_upd (f := tp_wt σ') (g := tp_wt σ) (c := c) (n := 400) hc kw
    have q : tp_sumF (fun x => (tp_oN σ' c x && decide (σ' 2 x ≠ 0)).toNat) 12 + (tp_oN σ c d && decide (σ 2 d ≠ 0)).toNat = tp_sumF (fun x => (tp_oN σ c x && decide (σ 2 x ≠ 0)).toNat) 12 + (tp_oN σ' c d && decide (σ' 2 d ≠ 0)).toNat := tp_sumF_upd (f := fun x => (tp_oN σ' c x && decide (σ' 2 x ≠ 0)).toNat) (g := fun x => (tp_oN σ c x && decide (σ 2 x ≠ 0)).toNat) (c := d) (n := 12) hd (fun x hx hne => by
      show (tp_oN σ' c x && decide (σ' 2 x ≠ 0)).toNat = _
      rw [fl c x hc hx, o1 c x hx, tp_mvO, if_pos rfl, decide_eq_false hne, Bool.not_false, Bool.and_true]
      by_cases z : x = e
      · rw [z, h2e, decide_eq_false (fun v : (0 : Int32) ≠ 0 => v rfl), Bool.and_false, Bool.and_false]
      · rw [decide_eq_false z, Bool.or_false])
    have q1 : (tp_oN σ' c d && decide (σ' 2 d ≠ 0)).toNat = 0 := by
      rw [o1 c d hd, tp_mvO, if_pos rfl, decide_eq_true (rfl : d = d), decide_eq_false (fun z => hed z.symm), Bool.not_true, Bool.and_false]; rfl
    have q2 : (tp_oN σ c d && decide (σ 2 d ≠ 0)).toNat = 1 := by rw [h.1, decide_eq_true hl]; rfl
    have w1 : tp_wt σ c = (tp_dg σ c).toNat + tp_sumF (fun x => (tp_oN σ c x && decide (σ 2 x ≠ 0)).toNat) 12 := rfl
    have w2 : tp_wt σ' c = (tp_dg σ c).toNat + tp_sumF (fun x => (tp_oN σ' c x && decide (σ' 2 x ≠ 0)).toNat) 12 := by
      show (tp_dg σ' c).toNat + _ = _
      rw [show tp_dg σ' c = tp_dg σ c from by rw [tp_dg, tp_dg, kn c hc]]
    rw [q1, q2] at q
    unfold tp_mu
    omega
def tp_pG (σ : tp_St) (d : Nat) : Bool := decide (σ 2 d ≠ 0) && (tp_findF (tp_pF σ d) 400 0).isSome
theorem tp_C_off {σ τ : tp_St} (I : tp_Inv σ) (R : tp_Rel tp_noX σ τ) : fC_moveOneOff σ = (tp_findF (tp_pG σ) 12 0).elim (some (0, σ)) (fun d => fC_moveOneOffDisk σ (tp_nI d)) := by
  refine tp_find_loop0 (F := fun n x => fC_moveOneOff_L2 n x σ) (N := 12) ?_ ?_
  · show fC_moveOneOff_L2 1 (tp_nI 12) σ = _
    rw [fC_moveOneOff_L2, if_pos (by decide)]
  · intro n i hi
    show fC_moveOneOff_L2 (n + 1) (tp_nI i) σ = _
    rw [fC_moveOneOff_L2, if_neg (tp_gd hi), if_neg (tp_bd hi), tp_td hi, tp_pG]
    by_cases y : σ 2 i = 0
    · rw [if_pos y, decide_eq_false (fun z => z y)]; rfl
    · rw [if_neg y, decide_eq_true y, tp_C_offd I hi y, Bool.true_and]
      cases hf : tp_findF (tp_pF σ i) 400 0 with
      | none => rfl
      | some c =>
        obtain ⟨_, k1, k2, _⟩ := tp_findF_some hf
        obtain ⟨e, σ', τ', a1, a2, a3, _⟩ := tp_off_move I R hi (by omega) y k2
        show ((fC_moveCopy σ (tp_nI c) (tp_nI i) (tp_enc (tp_eM (tp_qO σ c) (tp_fr σ) 12))).bind fun q => some (1, q)).bind _ = (fC_moveCopy σ (tp_nI c) (tp_nI i) (tp_enc (tp_eM (tp_qO σ c) (tp_fr σ) 12))).bind fun q => some (1, q)
        rw [a1]
        show ((fC_moveCopy σ (tp_nI c) (tp_nI i) (tp_nI e)).bind fun q => some ((1 : Int32), q)).bind _ = (fC_moveCopy σ (tp_nI c) (tp_nI i) (tp_nI e)).bind fun q => some (1, q)
        rw [a3]; rfl
theorem tp_M_lv {σ τ : tp_St} (I : tp_Inv σ) (R : tp_Rel tp_noX σ τ) {d : Nat} (hd : d < 12) : (σ 2 d = 0 → τ 1 d ≤ 0 ∨ τ 2 d = 0) ∧ (σ 2 d ≠ 0 → ¬ τ 1 d ≤ 0 ∧ ¬ τ 2 d = 0) := by
  rw [R.pl hd]
  refine ⟨fun h => ?_, fun h => ?_⟩
  · by_cases z : 0 < σ 0 d
    · exact .inr (by rw [(R.1 d hd).2 z]; exact h)
    · exact .inl (Int32.not_lt.mp z)
  · have k := I.lv hd h
    exact ⟨Int32.not_le.mpr k.1, by rw [(R.1 d hd).2 k.1]; exact h⟩
theorem tp_M_lo0 {σ τ : tp_St} (I : tp_Inv σ) (R : tp_Rel tp_noX σ τ) : fM_leaveOne τ 0 = (tp_findF (tp_pG σ) 12 0).elim (some ((0 : Int32), τ)) (fun d => (tp_findF (tp_pF σ d) 400 0).elim none (fun c => some ((1 : Int32), tp_up τ 4 c (τ 4 c - 1 <<< (tp_nI d &&& 31) + 1 <<< (tp_enc (tp_eM (tp_qO σ c) (tp_fr σ) 12) &&& 31))))) := by
  refine tp_find_loop0 (F := fun n x => fM_leaveOne_L2 0 n x τ) (N := 12) ?_ ?_
  · show fM_leaveOne_L2 0 1 (tp_nI 12) τ = _
    rw [fM_leaveOne_L2, if_pos (by decide)]
  · intro n d hd
    show fM_leaveOne_L2 0 (n + 1) (tp_nI d) τ = _
    rw [fM_leaveOne_L2, if_neg (tp_gd hd), tp_pG]
    by_cases y : σ 2 d = 0
    · rw [decide_eq_false (fun z => z y)]
      show fM_leaveOne_L10 _ 0 (tp_nI d) (400 + 1) 0 τ = _
      rw [fM_leaveOne_L10, if_neg (by decide), if_neg (tp_bd hd), tp_td hd]
      rcases (tp_M_lv I R hd).1 y with z | z
      · rw [if_pos z]; rfl
      · by_cases w : τ 1 d ≤ 0
        · rw [if_pos w]; rfl
        · rw [if_neg w, if_pos z]; rfl
    · rw [decide_eq_true y, Bool.true_and]
      obtain ⟨y1, y2⟩ := (tp_M_lv I R hd).2 y
      have inner : fM_leaveOne_L10 (fun (σ10k : tp_St) => fM_leaveOne_L2 0 n (tp_nI d + 1) σ10k) 0 (tp_nI d) 401 0 τ = (tp_findF (tp_pF σ d) 400 0).elim (fM_leaveOne_L2 0 n (tp_nI d + 1) τ) (fun c => some (1, tp_up τ 4 c (τ 4 c - 1 <<< (tp_nI d &&& 31) + 1 <<< (tp_enc (tp_eM (tp_qO σ c) (tp_fr σ) 12) &&& 31)))) := by
        refine tp_find_loop0 (F := fun n' x => fM_leaveOne_L10 (fun (σ10k : tp_St) => fM_leaveOne_L2 0 n (tp_nI d + 1) σ10k) 0 (tp_nI d) n' x τ) (N := 400) ?_ ?_
        · show fM_leaveOne_L10 _ 0 (tp_nI d) 1 (tp_nI 400) τ = _
          rw [fM_leaveOne_L10, if_pos (by decide)]
        · intro n' c hc
          show fM_leaveOne_L10 _ 0 (tp_nI d) (n' + 1) (tp_nI c) τ = _
          rw [fM_leaveOne_L10, if_neg (tp_g4 hc), if_neg (tp_bd hd), tp_td hd, if_neg y1, if_neg y2, tp_M_isOn I R hc hd, Option.bind_some, tp_if_bI, if_pos rfl, tp_M_emp2 I R hc, Option.bind_some, if_pos rfl, if_neg (tp_b4 hc), tp_t4 hc, tp_pF, tp_tk]
          cases tp_oN σ c d with
          | false => rfl
          | true =>
            cases he : tp_eM (tp_qO σ c) (tp_fr σ) 12 with
            | none => rfl
            | some e =>
              show (if tp_nI e < 0 then _ else _) = _
              rw [if_neg (tp_nI_nn (by have := tp_eM_12 (Nat.le_refl _) he; omega))]; rfl
      rw [inner]
      cases tp_findF (tp_pF σ d) 400 0 <;> rfl
theorem tp_off_sim {σ τ : tp_St} (I : tp_Inv σ) (R : tp_Rel tp_noX σ τ) :
    ((∀ d, d < 12 → σ 2 d ≠ 0 → ∀ c, c < 400 → tp_oN σ c d = true → tp_tk σ c = false) ∧ fC_moveOneOff σ = some (0, σ) ∧ fM_leaveOne τ 0 = some (0, τ)) ∨
    ∃ d σ' τ', fC_moveOneOff σ = some (1, σ') ∧ fM_leaveOne τ 0 = some (1, τ') ∧ tp_Inv σ' ∧ tp_Rel (fun x => x = d) σ' τ' ∧ τ' 0 = τ 0 ∧ tp_mu σ' < tp_mu σ := by
  rw [tp_C_off I R, tp_M_lo0 I R]
  cases hf : tp_findF (tp_pG σ) 12 0 with
  | none =>
    refine .inl ⟨fun d hd hl c hc ho => ?_, rfl, rfl⟩
    have k := tp_findF_none hf d (by omega) (by omega)
    rw [tp_pG, decide_eq_true hl, Bool.true_and] at k
    have k2 : tp_findF (tp_pF σ d) 400 0 = none := by
      cases h : tp_findF (tp_pF σ d) 400 0 with
      | none => rfl
      | some c => rw [h] at k; cases k
    have := tp_findF_none k2 c (by omega) (by omega)
    rw [tp_pF, ho, Bool.true_and] at this
    exact this
  | some d =>
    obtain ⟨_, k1, k2, _⟩ := tp_findF_some hf
    have hd : d < 12 := by omega
    rw [tp_pG, Bool.and_eq_true, decide_eq_true_eq, Option.isSome_iff_exists] at k2
    obtain ⟨hl, c, hc⟩ := k2
    obtain ⟨_, q1, q2, _⟩ := tp_findF_some hc
    obtain ⟨e, σ', τ', a1, a2, a3, a4, a5, a6, a7⟩ := tp_off_move I R hd (show c < 400 by omega) hl q2
    refine .inr ⟨d, σ', τ', ?_, ?_, a5, a6, by rw [a4]; rfl, a7⟩
    · show fC_moveOneOffDisk σ (tp_nI d) = _
      rw [tp_C_offd I hd hl, hc]
      show (fC_moveCopy σ (tp_nI c) (tp_nI d) (tp_enc (tp_eM (tp_qO σ c) (tp_fr σ) 12))).bind _ = _
      rw [a1]
      show (fC_moveCopy σ (tp_nI c) (tp_nI d) (tp_nI e)).bind _ = _
      rw [a3]; rfl
    · show (tp_findF (tp_pF σ d) 400 0).elim none _ = _
      rw [hc, a4]
      show some ((1 : Int32), tp_up τ 4 c (τ 4 c - 1 <<< (tp_nI d &&& 31) + 1 <<< (tp_enc (tp_eM (tp_qO σ c) (tp_fr σ) 12) &&& 31))) = _
      rw [a1]; rfl
def tp_pO (σ : tp_St) (d c : Nat) : Bool := tp_oN σ c d && tp_swr σ (tp_ot σ c d)
theorem tp_C_odw {σ : tp_St} (I : tp_Inv σ) {d : Nat} : fC_otherDiskWithRoom σ (tp_nI d) = some ((tp_findF (tp_pO σ d) 400 0).elim (-1) (fun c => tp_ot σ c d)) := by
  have h := tp_find_loop0 (F := fun n x => fC_otherDiskWithRoom_L2 σ (tp_nI d) n x) (N := 400) (p := tp_pO σ d) (hit := fun c => some (tp_ot σ c d)) (miss := some (-1)) (by
    show fC_otherDiskWithRoom_L2 σ (tp_nI d) 1 (tp_nI 400) = _
    rw [fC_otherDiskWithRoom_L2, if_pos (by decide)]) (fun n i hi => by
    show fC_otherDiskWithRoom_L2 σ (tp_nI d) (n + 1) (tp_nI i) = _
    rw [fC_otherDiskWithRoom_L2, if_neg (tp_g4 hi), tp_C_isOn' hi d, Option.bind_some, tp_if_bI, tp_C_other hi, Option.bind_some, tp_C_swr (tp_ot_D (I.vv hi)), Option.bind_some, tp_if_bI, Option.bind_some, tp_pO]
    cases tp_oN σ i d with
    | false => rfl
    | true => cases tp_swr σ (tp_ot σ i d) <;> rfl)
  rw [fC_otherDiskWithRoom]
  refine Eq.trans h ?_
  cases tp_findF (tp_pO σ d) 400 0 <;> rfl
def tp_pP (σ : tp_St) (d : Nat) : Bool := decide (σ 2 d ≠ 0) && (tp_findF (tp_pO σ d) 400 0).isSome
theorem tp_pO_d {σ : tp_St} (I : tp_Inv σ) {d c : Nat} (hc : c < 400) (h : tp_pO σ d c = true) : tp_oN σ c d = true ∧ ∃ D, D < 12 ∧ tp_ot σ c d = tp_nI D ∧ tp_sy σ D = true ∧ 0 < tp_fr σ D := by
  rw [tp_pO, Bool.and_eq_true] at h
  rcases tp_ot_D (d := d) (I.vv hc) with z | ⟨D, hD, z⟩
  · rw [z, tp_swr_m] at h; exact absurd h.2 (by decide)
  · rw [z, tp_swr_n hD] at h; exact ⟨h.1, D, hD, z, h.2.1, h.2.2⟩
theorem tp_C_rto {σ : tp_St} (I : tp_Inv σ) : fC_makeRoomToMoveOff σ = (tp_findF (tp_pP σ) 12 0).elim (some (0, σ)) (fun d => (tp_findF (tp_pO σ d) 400 0).elim none (fun c => (fC_makeRoomBeside σ (tp_ot σ c d)).bind fun q => if q.1 = -1 then some (0, q.2) else some (1, q.2))) := by
  refine tp_find_loop0 (F := fun n x => fC_makeRoomToMoveOff_L2 n x σ) (N := 12) ?_ ?_
  · show fC_makeRoomToMoveOff_L2 1 (tp_nI 12) σ = _
    rw [fC_makeRoomToMoveOff_L2, if_pos (by decide)]
  · intro n d hd
    show fC_makeRoomToMoveOff_L2 (n + 1) (tp_nI d) σ = _
    rw [fC_makeRoomToMoveOff_L2, if_neg (tp_gd hd), if_neg (tp_bd hd), tp_td hd, tp_C_odw I, Option.bind_some, tp_pP]
    by_cases y : σ 2 d = 0
    · rw [if_pos y, decide_eq_false (fun z => z y)]; rfl
    · rw [if_neg y, decide_eq_true y, Bool.true_and]
      cases hf : tp_findF (tp_pO σ d) 400 0 with
      | none => rfl
      | some c =>
        obtain ⟨_, k1, k2, _⟩ := tp_findF_some hf
        obtain ⟨_, D, hD, e, _⟩ := tp_pO_d I (show c < 400 by omega) k2
        show (if tp_ot σ c d = -1 then _ else _) = _
        rw [if_neg (by rw [e]; exact tp_nI_m (by omega))]; rfl
def tp_pS (σ : tp_St) (d c : Nat) : Bool := tp_oN σ c d && (tp_findF (tp_pR σ c (tp_nI d)) 12 0).isSome
def tp_pT (σ : tp_St) (d : Nat) : Bool := decide (σ 2 d ≠ 0) && (tp_findF (tp_pS σ d) 400 0).isSome
theorem tp_M_rf1 {σ τ : tp_St} (I : tp_Inv σ) (R : tp_Rel tp_noX σ τ) {c : Nat} (hc : c < 400) {x : Int32} {e : Nat} (hf : tp_findF (tp_pR σ c x) 12 0 = some e) : ∃ τ', fM_roomFor τ (tp_nI c) x = some (1, τ') := by
  obtain ⟨_, k1, k2, _⟩ := tp_findF_some hf
  obtain ⟨_, _, _, hfr, hr⟩ := tp_pR_iff.mp k2
  rw [tp_M_rf I R hc, hf]
  rcases tp_room_sim I R (show e < 12 by omega) ((tp_fr_pos I (by omega)).mp hfr) with ⟨h1, _⟩ | ⟨c', a, σ', τ', hc', ha, h1, oa, oo, hs', b1, b2, _⟩
  · rw [h1] at hr; cases hr
  · exact ⟨τ', by show (fM_makeRoom τ (tp_nI e)).bind _ = _; rw [b2]; rfl⟩
theorem tp_M_lo1 {σ τ : tp_St} (I : tp_Inv σ) (R : tp_Rel tp_noX σ τ) : fM_leaveOne τ 1 = (tp_findF (tp_pT σ) 12 0).elim (some (0, τ)) (fun d => (tp_findF (tp_pS σ d) 400 0).elim none (fun c => fM_roomFor τ (tp_nI c) (tp_nI d))) := by
  refine tp_find_loop0 (F := fun n x => fM_leaveOne_L2 1 n x τ) (N := 12) ?_ ?_
  · show fM_leaveOne_L2 1 1 (tp_nI 12) τ = _
    rw [fM_leaveOne_L2, if_pos (by decide)]
  · intro n d hd
    show fM_leaveOne_L2 1 (n + 1) (tp_nI d) τ = _
    rw [fM_leaveOne_L2, if_neg (tp_gd hd), tp_pT]
    by_cases y : σ 2 d = 0
    · rw [decide_eq_false (fun z => z y)]
      show fM_leaveOne_L10 _ 1 (tp_nI d) (400 + 1) 0 τ = _
      rw [fM_leaveOne_L10, if_neg (by decide), if_neg (tp_bd hd), tp_td hd]
      rcases (tp_M_lv I R hd).1 y with z | z
      · rw [if_pos z]; rfl
      · by_cases w : τ 1 d ≤ 0
        · rw [if_pos w]; rfl
        · rw [if_neg w, if_pos z]; rfl
    · rw [decide_eq_true y, Bool.true_and]
      obtain ⟨y1, y2⟩ := (tp_M_lv I R hd).2 y
      have inner : fM_leaveOne_L10 (fun (σ10k : tp_St) => fM_leaveOne_L2 1 n (tp_nI d + 1) σ10k) 1 (tp_nI d) 401 0 τ = (tp_findF (tp_pS σ d) 400 0).elim (fM_leaveOne_L2 1 n (tp_nI d + 1) τ) (fun c => fM_roomFor τ (tp_nI c) (tp_nI d)) := by
        refine tp_find_loop0 (F := fun n' x => fM_leaveOne_L10 (fun (σ10k : tp_St) => fM_leaveOne_L2 1 n (tp_nI d + 1) σ10k) 1 (tp_nI d) n' x τ) (N := 400) ?_ ?_
        · show fM_leaveOne_L10 _ 1 (tp_nI d) 1 (tp_nI 400) τ = _
          rw [fM_leaveOne_L10, if_pos (by decide)]
        · intro n' c hc
          show fM_leaveOne_L10 _ 1 (tp_nI d) (n' + 1) (tp_nI c) τ = _
          rw [fM_leaveOne_L10, if_neg (tp_g4 hc), if_neg (tp_bd hd), tp_td hd, if_neg y1, if_neg y2, tp_M_isOn I R hc hd, Option.bind_some, tp_if_bI, if_neg (show ¬ (1 : Int32) = 0 by decide), if_neg (show ¬ (1 : Int32) = 0 by decide), tp_pS]
          cases tp_oN σ c d with
          | false => rfl
          | true =>
            rw [if_pos rfl, Bool.true_and]
            cases hf : tp_findF (tp_pR σ c (tp_nI d)) 12 0 with
            | none => rw [tp_M_rf I R hc, hf]; rfl
            | some e =>
              obtain ⟨τ', ht⟩ := tp_M_rf1 I R hc hf
              rw [ht]; rfl
      rw [inner]
      cases tp_findF (tp_pS σ d) 400 0 <;> rfl
theorem tp_rto_sim {σ τ : tp_St} (I : tp_Inv σ) (R : tp_Rel tp_noX σ τ) (hm : ∀ c, c < 400 → tp_dg σ c = true → tp_tk σ c = false)
    (hw : ∀ c, c < 400 → tp_dg σ c = true → ∀ D, D < 12 → tp_oN σ c D = true → tp_sy σ D = true → 0 < tp_fr σ D → tp_fR σ D = none)
    (ho : ∀ d, d < 12 → σ 2 d ≠ 0 → ∀ c, c < 400 → tp_oN σ c d = true → tp_tk σ c = false) :
    (fC_makeRoomToMoveOff σ = some (0, σ) ∧ fM_leaveOne τ 1 = some (0, τ)) ∨
    ∃ σ' τ', fC_makeRoomToMoveOff σ = some (1, σ') ∧ fM_leaveOne τ 1 = some (1, τ') ∧ tp_Inv σ' ∧ tp_Rel tp_noX σ' τ' ∧ τ' 0 = τ 0 ∧ tp_mu σ' = tp_mu σ ∧ tp_g3 σ' := by
  rw [tp_C_rto I, tp_M_lo1 I R]
  have hSO : ∀ d c, d < 12 → c < 400 → tp_pS σ d c = true → tp_pO σ d c = true := fun d c hd hc h => by
    rw [tp_pS, Bool.and_eq_true, Option.isSome_iff_exists] at h
    obtain ⟨h1, e, he⟩ := h
    obtain ⟨_, k1, k2, _⟩ := tp_findF_some he
    obtain ⟨q1, q2, q3, q4, _⟩ := tp_pR_iff.mp k2
    have hed : e ≠ d := fun z => q1 (by rw [z])
    rw [tp_ot_on (I.vv hc) hd (by omega) h1 hed, decide_eq_true_eq] at q2
    rw [tp_pO, h1, q2, Bool.true_and]
    exact (tp_swr_n (by omega)).mpr ⟨q3, q4⟩
  cases hf : tp_findF (tp_pP σ) 12 0 with
  | none =>
    have hno := tp_findF_none hf
    have hq : tp_findF (tp_pT σ) 12 0 = none := tp_findF_no (fun d hd => by
      cases h : tp_pT σ d with
      | false => rfl
      | true =>
        exfalso
        rw [tp_pT, Bool.and_eq_true, Option.isSome_iff_exists] at h
        obtain ⟨h1, c, hc⟩ := h
        obtain ⟨_, k1, k2, _⟩ := tp_findF_some hc
        have k := hno d (by omega) (by omega)
        rw [tp_pP, h1, Bool.true_and] at k
        have k0 : tp_findF (tp_pO σ d) 400 0 = none := by
          cases h2 : tp_findF (tp_pO σ d) 400 0 with
          | none => rfl
          | some c => rw [h2] at k; cases k
        have := tp_findF_none k0 c (by omega) (by omega)
        rw [hSO d c hd (by omega) k2] at this
        cases this)
    exact .inl ⟨rfl, by rw [hq]; rfl⟩
  | some d =>
    obtain ⟨_, d1, d2, d3⟩ := tp_findF_some hf
    have hd : d < 12 := by omega
    rw [tp_pP, Bool.and_eq_true, decide_eq_true_eq, Option.isSome_iff_exists] at d2
    obtain ⟨hl, c, hfc⟩ := d2
    obtain ⟨_, c1', c2, c3⟩ := tp_findF_some hfc
    have hc : c < 400 := by omega
    obtain ⟨oc, D, hD, eD, sD, fD⟩ := tp_pO_d I hc c2
    have hDd : D ≠ d := fun z => hl (by rw [← z]; exact (tp_sy_iff.mp sD).2)
    have hall : ∀ e, e < 12 → tp_sy σ e = true → 0 < tp_fr σ e → e = D := fun e he hs hfr => by
      have k := tp_tk_no (ho d hd hl c hc oc) he hs hfr
      have hed : e ≠ d := fun z => hl (by rw [← z]; exact (tp_sy_iff.mp hs).2)
      rw [tp_ot_on (I.vv hc) hd he oc hed, eD, decide_eq_true_eq, tp_nI_eq (by omega) (by omega)] at k
      exact k.symm
    rcases tp_room_sim I R hD ((tp_fr_pos I hD).mp fD) with ⟨h1, b1, b2⟩ | ⟨c', a, σ', τ', hc', ha, h1, oa, oo, hs', b1, b2, I1, R1, t0, o1, ⟨s0, s2, s3, s6⟩, k1⟩
    · have hq : tp_findF (tp_pT σ) 12 0 = none := tp_findF_no (fun x hx => by
        cases h : tp_pT σ x with
        | false => rfl
        | true =>
          exfalso
          rw [tp_pT, Bool.and_eq_true, Option.isSome_iff_exists] at h
          obtain ⟨_, i, hi⟩ := h
          obtain ⟨_, q1, q2, _⟩ := tp_findF_some hi
          rw [tp_pS, Bool.and_eq_true, Option.isSome_iff_exists] at q2
          obtain ⟨_, e, he⟩ := q2
          obtain ⟨_, r1, r2, _⟩ := tp_findF_some he
          obtain ⟨_, _, hs, hfr, hr⟩ := tp_pR_iff.mp r2
          rw [hall e (by omega) hs hfr, h1] at hr; cases hr)
      refine .inl ⟨?_, by rw [hq]; rfl⟩
      show (tp_findF (tp_pO σ d) 400 0).elim none _ = _
      rw [hfc]
      show (fC_makeRoomBeside σ (tp_ot σ c d)).bind _ = _
      rw [eD, b1]; rfl
    · -- the class's candidates are the reference's
      have hfR : ∀ x i, x < 12 → i < 400 → σ 2 x ≠ 0 → tp_pO σ x i = true → tp_findF (tp_pR σ i (tp_nI x)) 12 0 = some D := fun x i hx hi hlx h => by
        obtain ⟨ox, E, hE, eE, sE, fE⟩ := tp_pO_d I hi h
        have : E = D := hall E hE sE fE
        rw [this] at eE
        have hDx : D ≠ x := fun z => hlx (by rw [← z]; exact (tp_sy_iff.mp sD).2)
        refine tp_findF_is hD (tp_pR_iff.mpr ⟨fun z => hDx ((tp_nI_eq (by omega) (by omega)).mp z), ?_, sD, fD, by rw [h1]; rfl⟩) (fun m hm => ?_)
        · rw [tp_ot_on (I.vv hi) hx hD ox hDx, eE]; exact decide_eq_true rfl
        · cases hp : tp_pR σ i (tp_nI x) m with
          | false => rfl
          | true =>
            obtain ⟨_, _, q3, q4, _⟩ := tp_pR_iff.mp hp
            have := hall m (by omega) q3 q4
            omega
      have hOS : ∀ x i, x < 12 → i < 400 → σ 2 x ≠ 0 → tp_pO σ x i = tp_pS σ x i := fun x i hx hi hlx => by
        cases h : tp_pO σ x i with
        | true => rw [tp_pS, (tp_pO_d I hi h).1, hfR x i hx hi hlx h]; rfl
        | false =>
          cases h2 : tp_pS σ x i with
          | false => rfl
          | true => rw [hSO x i hx hi h2] at h; cases h
      have hPT : ∀ x, x < 12 → tp_pP σ x = tp_pT σ x := fun x hx => by
        rw [tp_pP, tp_pT]
        by_cases z : σ 2 x = 0
        · rw [decide_eq_false (fun w => w z)]; rfl
        · rw [tp_findF_congr (p := tp_pO σ x) (q := tp_pS σ x) (fun m _ hm => hOS x m hx (by omega) z)]
      have hq : tp_findF (tp_pT σ) 12 0 = some d := by rw [← tp_findF_congr (p := tp_pP σ) (q := tp_pT σ) (fun m _ hm => hPT m (by omega))]; exact hf
      have hqc : tp_findF (tp_pS σ d) 400 0 = some c := by rw [← tp_findF_congr (p := tp_pO σ d) (q := tp_pS σ d) (fun m _ hm => hOS d m hd (by omega) hl)]; exact hfc
      have oD : tp_oN σ c D = true := by rw [tp_ot_on (I.vv hc) hd hD oc hDd, eD]; exact decide_eq_true rfl
      have hcc : c ≠ c' := fun z => by rw [← z, oD] at oo; cases oo
      have haD : a ≠ D := fun z => by rw [z, oo] at oa; cases oa
      have had : a ≠ d := fun z => hl (by rw [← z]; exact (tp_sy_iff.mp hs').2)
      have ocx : ∀ e, e < 12 → tp_oN σ' c e = tp_oN σ c e := fun e he => by rw [o1 c e he, tp_mvO, if_neg hcc]
      obtain ⟨m1, m2⟩ := tp_mu_room I I1 hc' ha hD oa oo hs' sD o1 s2
      have ca := k1 a ha
      rw [decide_eq_true rfl, decide_eq_false haD, show (true).toNat = 1 from rfl, show (false).toNat = 0 from rfl] at ca
      refine .inr ⟨σ', τ', ?_, ?_, I1, R1, t0, m1, fun i hi => ?_, d, c, hd, hc, by rw [s2]; exact hl, by rw [ocx d hd]; exact oc, ?_⟩
      · show (tp_findF (tp_pO σ d) 400 0).elim none _ = _
        rw [hfc]
        show (fC_makeRoomBeside σ (tp_ot σ c d)).bind _ = _
        rw [eD, b1, Option.bind_some]
        show (if tp_nI a = -1 then _ else _) = _
        rw [if_neg (tp_nI_m (by omega))]
      · rw [hq]
        show (tp_findF (tp_pS σ d) 400 0).elim none _ = _
        rw [hqc]
        show fM_roomFor τ (tp_nI c) (tp_nI d) = _
        rw [tp_M_rf I R hc, hfR d c hd hc hl c2]
        show (fM_makeRoom τ (tp_nI D)).bind _ = _
        rw [b2]; rfl
      · rw [m2 i hi]
        cases hg : tp_dg σ i with
        | false => rfl
        | true =>
          exfalso
          have k := tp_tk_no (hm i hi hg) hD sD fD
          have := hw i hi hg D hD k sD fD
          rw [h1] at this; cases this
      · refine tp_tk_of ha ?_ ?_ (tp_fr_room (D := D) I1 ha s0 (by omega) (I.pl ha).2.2)
        · rw [ocx a ha, tp_ot_on (I.vv hc) hd ha oc had, eD]
          exact decide_eq_false (fun z => haD ((tp_nI_eq (by omega) (by omega)).mp z).symm)
        · rw [tp_sy_iff, s0, s2]; exact tp_sy_iff.mp hs'
theorem tp_step_sim {σ τ : tp_St} (I : tp_Inv σ) (R : tp_Rel tp_noX σ τ) : ∃ r σ' τ', fC_nextStep σ = some (r, σ') ∧ fM_doStep τ = some (r, τ') ∧ tp_Inv σ' ∧ tp_Rel tp_noX σ' τ' ∧ τ' 0 = τ 0 ∧
    (r = 0 ∨ (0 < r ∧ (tp_mu σ' < tp_mu σ ∨ (tp_mu σ' = tp_mu σ ∧ (tp_g1 σ' ∨ tp_g3 σ'))))) ∧ ((tp_g1 σ ∨ tp_g3 σ) → tp_mu σ' < tp_mu σ) := by
  rw [fC_nextStep, fM_doStep]
  rcases tp_mend_sim I R with ⟨hm, a1, a2⟩ | ⟨σ', τ', a1, a2, I1, R1, t1, m1⟩
  · rw [a1, a2, Option.bind_some, Option.bind_some]
    show ∃ r σ' τ', (if (0 : Int32) = 0 then _ else _) = _ ∧ (if (0 : Int32) = 0 then _ else _) = _ ∧ _
    rw [if_pos rfl, if_pos rfl]
    have ng1 : ¬ tp_g1 σ := fun ⟨c, hc, h1, h2⟩ => by rw [hm c hc h1] at h2; cases h2
    rcases tp_rtm_sim I R hm with ⟨hw, b1, b2⟩ | ⟨σ', τ', b1, b2, I1, R1, t1, m1, hg, c0, hc0, hg0⟩
    · rw [b1, b2, Option.bind_some, Option.bind_some]
      show ∃ r σ' τ', (if (0 : Int32) = 0 then _ else _) = _ ∧ (if (0 : Int32) = 0 then _ else _) = _ ∧ _
      rw [if_pos rfl, if_pos rfl]
      rcases tp_off_sim I R with ⟨ho, c1, c2⟩ | ⟨d, σ', τ', c1, c2, I1, R1, t1, m1⟩
      · rw [c1, c2, Option.bind_some, Option.bind_some]
        show ∃ r σ' τ', (if (0 : Int32) = 0 then _ else _) = _ ∧ (if (0 : Int32) = 0 then _ else _) = _ ∧ _
        rw [if_pos rfl, if_pos rfl]
        have ng3 : ¬ tp_g3 σ := fun ⟨_, d, c, hd, hc, h1, h2, h3⟩ => by rw [ho d hd h1 c hc h2] at h3; cases h3
        rcases tp_rto_sim I R hm hw ho with ⟨d1, d2⟩ | ⟨σ', τ', d1, d2, I1, R1, t1, m1, hg⟩
        · obtain ⟨τ', e1, e2, e3⟩ := tp_M_tidy I R
          refine ⟨0, σ, τ', ?_, ?_, I, e2, e3, .inl rfl, fun z => (z.elim ng1 ng3).elim⟩
          · rw [d1]; rfl
          · rw [d2, Option.bind_some]
            show (if (0 : Int32) = 0 then _ else _) = _
            rw [if_pos rfl, e1]; rfl
        · obtain ⟨τ2, e1, e2, e3⟩ := tp_M_tidy I1 R1
          refine ⟨4, σ', τ2, ?_, ?_, I1, e2, by rw [e3]; exact t1, .inr ⟨by decide, .inr ⟨m1, .inr hg⟩⟩, fun z => (z.elim ng1 ng3).elim⟩
          · rw [d1]; rfl
          · rw [d2, Option.bind_some]
            show (if (1 : Int32) = 0 then _ else _) = _
            rw [if_neg (by decide), e1]; rfl
      · obtain ⟨τ2, e1, e2, e3⟩ := tp_M_tidy I1 R1
        refine ⟨3, σ', τ2, ?_, ?_, I1, e2, by rw [e3]; exact t1, .inr ⟨by decide, .inl m1⟩, fun _ => m1⟩
        · rw [c1]; rfl
        · rw [c2, Option.bind_some]
          show (if (1 : Int32) = 0 then _ else _) = _
          rw [if_neg (by decide), e1]; rfl
    · obtain ⟨τ2, e1, e2, e3⟩ := tp_M_tidy I1 R1
      have ng3 : ¬ tp_g3 σ := fun ⟨h, _⟩ => by rw [h c0 hc0] at hg0; cases hg0
      refine ⟨2, σ', τ2, ?_, ?_, I1, e2, by rw [e3]; exact t1, .inr ⟨by decide, .inr ⟨m1, .inl hg⟩⟩, fun z => (z.elim ng1 ng3).elim⟩
      · rw [b1]; rfl
      · rw [b2, Option.bind_some]
        show (if (1 : Int32) = 0 then _ else _) = _
        rw [if_neg (by decide), e1]; rfl
  · obtain ⟨τ2, e1, e2, e3⟩ := tp_M_tidy I1 R1
    refine ⟨1, σ', τ2, ?_, ?_, I1, e2, by rw [e3]; exact t1, .inr ⟨by decide, .inl m1⟩, fun _ => m1⟩
    · rw [a1]; rfl
    · rw [a2, Option.bind_some]
      show (if (1 : Int32) = 0 then _ else _) = _
      rw [if_neg (by decide), e1]; rfl
end
section
def tp_Ok (o : Option (Nat × Int32 × tp_St)) (q : Option (Int32 × tp_St)) (mp : Nat → Nat) : Prop :=
  ∃ k v σ' v' τ', o = some (k, v, σ') ∧ q = some (v', τ') ∧ tp_Inv σ' ∧ tp_Rel tp_noX σ' τ' ∧ τ' 0 0 = tp_nI (mp k) ∧ (k = 0 → v = v') ∧ k < 5
def tp_Ok0 (o : Option (Nat × Int32 × tp_St)) (q : Option tp_St) (mp : Nat → Nat) : Prop :=
  ∃ k v σ' τ', o = some (k, v, σ') ∧ q = some τ' ∧ tp_Inv σ' ∧ tp_Rel tp_noX σ' τ' ∧ τ' 0 0 = tp_nI (mp k) ∧ k < 5
def tp_mp1 (k : Nat) : Nat := if k = 0 then 0 else 1
def tp_mpI (k : Nat) : Nat := k
def tp_mpL (k : Nat) : Nat := if k = 4 then 3 else k
def tp_mpA (k : Nat) : Nat := if k = 3 then 2 else k
theorem tp_Inv.gone {σ : tp_St} (I : tp_Inv σ) {d : Nat} (hd : d < 12) (h0 : tp_cn σ d = 0) : tp_Inv (tp_gone σ d) := by
  refine ⟨fun e he => ?_, I.2.1, fun e he => ?_, I.2.2.2⟩
  · show ∃ P, P ≤ 200 ∧ (if e = d then 0 else σ 0 e) = tp_nI P ∧ tp_cn σ e ≤ P
    by_cases z : e = d
    · exact ⟨0, by omega, by rw [if_pos z]; rfl, by rw [z]; omega⟩
    · rw [if_neg z]; exact I.1 e he
  · show (if e = d then 0 else σ 2 e) = 0 ∨ ((if e = d then 0 else σ 2 e) = 1 ∧ 0 < tp_cn σ e)
    by_cases z : e = d
    · exact .inl (if_pos z)
    · rw [if_neg z]; exact I.2.2.1 e he
theorem tp_up_self {σ : tp_St} {f k : Nat} : tp_up σ f k (σ f k) = σ := by
  funext g j
  show (if g = f then upd (σ f) k (σ f k) else σ g) j = σ g j
  by_cases h : g = f
  · rw [if_pos h, h]
    show (if j = k then σ f k else σ f j) = σ f j
    by_cases e : j = k
    · rw [if_pos e, e]
    · rw [if_neg e]
  · rw [if_neg h]
theorem tp_disk_sim {σ τ : tp_St} (I : tp_Inv σ) (R : tp_Rel tp_noX σ τ) (x y : Int32) : tp_Ok0 (fC_disk σ x y) (fM_disk τ x y) tp_mpI := by
  rw [fC_disk, fM_disk]
  by_cases h1 : x < 0
  · rw [if_pos h1, if_pos h1]; exact ⟨1, 0, σ, tp_up τ 0 0 1, rfl, rfl, I, R.thrown 1, rfl, by omega⟩
  · rw [if_neg h1, if_neg h1]
    by_cases h2 : x < 12
    · rw [if_pos h2, if_pos h2]
      rcases tp_int_cases 12 (by omega) x with ⟨d, hd, e⟩ | z | z
      · rw [e, tp_C_isThere hd, Option.bind_some, tp_if_bI, if_neg (tp_bd hd), if_neg (tp_bd hd), tp_td hd, R.pl hd, tp_th]
        by_cases h3 : 0 < σ 0 d
        · rw [decide_eq_true h3, if_pos rfl, if_neg (Int32.not_le.mpr h3)]; exact ⟨2, 0, σ, tp_up τ 0 0 2, rfl, rfl, I, R.thrown 2, rfl, by omega⟩
        · rw [decide_eq_false h3, if_neg (by decide), if_pos (Int32.not_lt.mp h3)]
          by_cases h4 : y < 1
          · rw [if_pos h4, if_pos h4]; exact ⟨3, 0, σ, tp_up τ 0 0 3, rfl, rfl, I, R.thrown 3, rfl, by omega⟩
          · rw [if_neg h4, if_neg h4]
            by_cases h5 : y ≤ 200
            · rw [if_pos h5, if_pos h5, tp_vn0]
              have hP : ∃ P, P ≤ 200 ∧ y = tp_nI P := by
                rcases tp_int_cases 201 (by omega) y with ⟨P, hP, e⟩ | z | z
                · exact ⟨P, by omega, e⟩
                · exact absurd (Int32.lt_trans z (by decide : (0 : Int32) < 1)) h4
                · exact absurd (Int32.le_trans z h5) (by decide)
              obtain ⟨P, hP, eP⟩ := hP
              have p0 : σ 0 d = tp_nI 0 := by
                obtain ⟨i1, i2, i3⟩ := I.pl hd
                rw [tp_pl_pos I hd] at h3
                rw [i1, show tp_pl σ d = 0 from by omega]
              have c0 : tp_cn σ d = 0 := by
                obtain ⟨i1, i2, i3⟩ := I.pl hd
                rw [tp_pl_pos I hd] at h3
                omega
              have l0 : σ 2 d = 0 := by
                by_cases w : σ 2 d = 0
                · exact w
                · exact absurd (I.lv hd w).1 h3
              refine ⟨0, 0, tp_up σ 0 d y, tp_up (tp_up (tp_up τ 0 0 0) 1 d y) 2 d 0, rfl, rfl, ⟨fun k hk => ?_, I.2.1, I.2.2.1, I.2.2.2⟩, ⟨fun k hk => ?_, R.2⟩, rfl, by omega⟩
              · show ∃ P, P ≤ 200 ∧ (if k = d then y else σ 0 k) = tp_nI P ∧ tp_cn σ k ≤ P
                by_cases w : k = d
                · exact ⟨P, hP, by rw [if_pos w]; exact eP, by rw [w]; omega⟩
                · rw [if_neg w]; exact I.1 k hk
              · show ((if k = d then y else τ 1 k) = (if k = d then y else σ 0 k) ∨ _) ∧ (0 < (if k = d then y else σ 0 k) → (if k = d then 0 else τ 2 k) = σ 2 k)
                by_cases w : k = d
                · rw [if_pos w, if_pos w, if_pos w, w]; exact ⟨.inl rfl, fun _ => l0.symm⟩
                · rw [if_neg w, if_neg w, if_neg w]; exact ⟨.inl (R.pl hk), (R.1 k hk).2⟩
            · rw [if_neg h5, if_neg h5]; exact ⟨3, 0, σ, tp_up τ 0 0 3, rfl, rfl, I, R.thrown 3, rfl, by omega⟩
      · exact absurd z h1
      · exact absurd (Int32.lt_of_lt_of_le h2 z) Int32.lt_irrefl
    · rw [if_neg h2, if_neg h2]; exact ⟨1, 0, σ, tp_up τ 0 0 1, rfl, rfl, I, R.thrown 1, rfl, by omega⟩
theorem tp_chunk_sim {σ τ : tp_St} (I : tp_Inv σ) (R : tp_Rel tp_noX σ τ) : tp_Ok (fC_chunk σ) (fM_chunk τ) tp_mp1 := by
  rw [fC_chunk, fM_chunk]
  obtain ⟨r, σ', τ', a1, a2, I1, R1, t1, hr⟩ := tp_new_sim I R
  rw [a1, a2, Option.bind_some, Option.bind_some]
  rcases hr with ⟨hr, _⟩ | ⟨⟨c, hc, hr⟩, _⟩
  · refine ⟨4, 0, σ', 0, tp_up τ' 0 0 1, ?_, ?_, I1, R1.thrown 1, rfl, fun z => by omega, by omega⟩
    · show (if r = -1 then _ else _) = _
      rw [if_pos hr]
    · show (if 0 ≤ r then _ else (if 0 ≤ r then _ else _)) = _
      rw [hr, if_neg (by decide), if_neg (by decide)]
  · have p : 0 ≤ tp_nI c := Int32.not_lt.mp (tp_nI_nn (by omega))
    refine ⟨0, r, σ', r, tp_up τ' 0 0 0, ?_, ?_, I1, R1.thrown 0, rfl, fun _ => rfl, by omega⟩
    · show (if r = -1 then _ else _) = _
      rw [if_neg (by rw [hr]; exact tp_nI_m (by omega))]
    · show (if 0 ≤ r then (if 0 ≤ r then _ else _) else _) = _
      rw [hr, if_pos p, if_pos p]
theorem tp_al_le (σ : tp_St) : tp_al σ ≤ 400 := tp_cntF_le _ 400
theorem tp_chunks_loop {x : Int32} {M : Nat} (hM : M ≤ 400) (hx : ∀ i, i < 400 → (x ≤ tp_nI i ↔ M ≤ i)) : ∀ k i σ τ, i + k = 400 → tp_Inv σ → tp_Rel tp_noX σ τ → i ≤ tp_al σ → i ≤ M →
    ∃ r σ' τ', fC_chunks_L22 (tp_nI M) (k + 1) (tp_nI i) σ = some (0, r, σ') ∧ fM_chunks_L15 x (k + 2) (tp_nI i) τ = some (r, τ') ∧ tp_Inv σ' ∧ tp_Rel tp_noX σ' τ' ∧ τ' 0 = τ 0 := by
  intro k
  induction k with
  | zero =>
    intro i σ τ hk I R ha hi
    have e1 : i = 400 := by omega
    have e2 : M = 400 := by omega
    rw [e1, e2]
    have c1 : fC_chunks_L22 (tp_nI 400) (0 + 1) (tp_nI 400) σ = some (0, tp_nI 400, σ) := by rw [fC_chunks_L22, if_pos (Int32.le_refl _)]
    by_cases z : x ≤ tp_nI 400
    · exact ⟨tp_nI 400, σ, τ, c1, by rw [fM_chunks_L15, if_pos z], I, R, rfl⟩
    · obtain ⟨r, σ', τ', a1, a2, I1, R1, t1, hr⟩ := tp_new_sim I R
      rcases hr with ⟨hr, hs⟩ | ⟨_, hr⟩
      · rw [hs] at R1
        refine ⟨tp_nI 400, σ, τ', c1, ?_, I, R1, t1⟩
        rw [fM_chunks_L15, if_neg z, a2, Option.bind_some]
        show (if r < 0 then _ else _) = _
        rw [if_pos (by rw [hr]; decide)]
      · have := tp_al_le σ'; omega
  | succ k ih =>
    intro i σ τ hk I R ha hi
    by_cases z : M ≤ i
    · refine ⟨tp_nI i, σ, τ, ?_, ?_, I, R, rfl⟩
      · rw [fC_chunks_L22, if_pos ((tp_nI_le (by omega) (by omega)).mpr z)]
      · rw [fM_chunks_L15, if_pos ((hx i (by omega)).mpr z)]
    · obtain ⟨r, σ', τ', a1, a2, I1, R1, t1, hr⟩ := tp_new_sim I R
      rw [fC_chunks_L22, if_neg (fun w => z ((tp_nI_le (by omega) (by omega)).mp w)), a1, Option.bind_some, fM_chunks_L15, if_neg (fun w => z ((hx i (by omega)).mp w)), a2, Option.bind_some]
      rcases hr with ⟨hr, _⟩ | ⟨⟨c, hc, hr⟩, hal⟩
      · refine ⟨tp_nI i, σ', τ', ?_, ?_, I1, R1, t1⟩
        · show (if r = -1 then _ else _) = _
          rw [if_pos hr]
        · show (if r < 0 then _ else _) = _
          rw [if_pos (by rw [hr]; decide)]
      · obtain ⟨r2, σ2, τ2, b1, b2, I2, R2, t2⟩ := ih (i + 1) σ' τ' (by omega) I1 R1 (by omega) (by omega)
        refine ⟨r2, σ2, τ2, ?_, ?_, I2, R2, t2.trans t1⟩
        · show (if r = -1 then _ else _) = _
          rw [if_neg (by rw [hr]; exact tp_nI_m (by omega)), tp_nI_s]; exact b1
        · show (if r < 0 then _ else _) = _
          rw [if_neg (by rw [hr]; exact tp_nI_nn (by omega)), tp_nI_s]; exact b2
theorem tp_big {x : Int32} (h : 0 ≤ x) : ∃ N, N < 2 ^ 31 ∧ x = Int32.ofNat N := ⟨x.toNatClampNeg, x.toNatClampNeg_lt, (Int32.ofNat_toNatClampNeg x h).symm⟩
theorem tp_chunks_sim {σ τ : tp_St} (I : tp_Inv σ) (R : tp_Rel tp_noX σ τ) (x : Int32) : tp_Ok (fC_chunks σ x) (fM_chunks τ x) tp_mp1 := by
  rw [fC_chunks, fM_chunks]
  by_cases h : 0 ≤ x
  · rw [if_pos h, if_pos h]
    obtain ⟨N, hN, e⟩ := tp_big h
    have k1 : (if 400 < x then 400 else x) = tp_nI (min N 400) := by
      rw [e]
      by_cases z : 400 < N
      · rw [if_pos (show (400 : Int32) < Int32.ofNat N from (Int32.ofNat_lt_iff_lt (a := 400) (by omega) hN).mpr z), Nat.min_eq_right (by omega)]; rfl
      · rw [if_neg (show ¬ (400 : Int32) < Int32.ofNat N from fun w => z ((Int32.ofNat_lt_iff_lt (a := 400) (by omega) hN).mp w)), Nat.min_eq_left (by omega)]
    obtain ⟨r, σ', τ', a1, a2, I1, R1, t1⟩ := tp_chunks_loop (x := x) (M := min N 400) (by omega) (fun i hi => by
      rw [e, show (Int32.ofNat N ≤ tp_nI i ↔ N ≤ i) from Int32.ofNat_le_iff_le hN (by omega)]; omega) 400 0 σ (tp_up τ 0 0 0) rfl I (R.thrown 0) (by omega) (by omega)
    rw [k1]
    exact ⟨0, r, σ', r, τ', a1, a2, I1, R1, by rw [t1]; rfl, fun _ => rfl, by omega⟩
  · rw [if_neg h, if_neg h]
    have h0 : x ≤ 0 := Int32.le_of_lt (Int32.not_le.mp h)
    refine ⟨3, 0, σ, 0, tp_up τ 0 0 1, rfl, ?_, I, R.thrown 1, rfl, fun z => by omega, by omega⟩
    show fM_chunks_L15 x (401 + 1) 0 (tp_up τ 0 0 1) = _
    rw [fM_chunks_L15, if_pos h0]
theorem tp_steps_loop {x : Int32} {M : Nat} (hM : M ≤ 1000000) (hx : ∀ i, i < 1000000 → (x ≤ tp_nI i ↔ M ≤ i)) : ∀ b i n σ τ, i + b + 1 < 1000000 → b + 2 ≤ n → tp_Inv σ → tp_Rel tp_noX σ τ → (2 * tp_mu σ + 1 ≤ b ∨ (2 * tp_mu σ ≤ b ∧ (tp_g1 σ ∨ tp_g3 σ))) →
    ∃ r σ' τ', fC_steps_L21 (tp_nI M) n (tp_nI i) σ = some (0, r, σ') ∧ fM_steps_L25 x n (tp_nI i) (if x ≤ tp_nI i then 0 else 1) τ = some (r, τ') ∧ tp_Inv σ' ∧ tp_Rel tp_noX σ' τ' ∧ τ' 0 = τ 0 := by
  intro b
  induction b with
  | zero =>
    intro i n σ τ hi hn I R hb
    obtain ⟨n, rfl⟩ : ∃ m, n = m + 2 := ⟨n - 2, by omega⟩
    have hg : tp_mu σ = 0 ∧ (tp_g1 σ ∨ tp_g3 σ) := by
      rcases hb with h | h
      · omega
      · exact ⟨by omega, h.2⟩
    by_cases z : M ≤ i
    · refine ⟨tp_nI i, σ, τ, ?_, ?_, I, R, rfl⟩
      · rw [fC_steps_L21, if_pos ((tp_nI_le (by omega) (by omega)).mpr z)]
      · rw [if_pos ((hx i (by omega)).mpr z), fM_steps_L25, if_pos rfl]
    · obtain ⟨r, σ', τ', a1, a2, I1, R1, t1, hr, hgm⟩ := tp_step_sim I R
      have := hgm hg.2
      omega
  | succ b ih =>
    intro i n σ τ hi hn I R hb
    obtain ⟨n, rfl⟩ : ∃ m, n = m + 2 := ⟨n - 2, by omega⟩
    by_cases z : M ≤ i
    · refine ⟨tp_nI i, σ, τ, ?_, ?_, I, R, rfl⟩
      · rw [fC_steps_L21, if_pos ((tp_nI_le (by omega) (by omega)).mpr z)]
      · rw [if_pos ((hx i (by omega)).mpr z), fM_steps_L25, if_pos rfl]
    · obtain ⟨r, σ', τ', a1, a2, I1, R1, t1, hr, hgm⟩ := tp_step_sim I R
      rw [fC_steps_L21, if_neg (fun w => z ((tp_nI_le (by omega) (by omega)).mp w)), a1, Option.bind_some, if_neg (fun w => z ((hx i (by omega)).mp w)), fM_steps_L25, if_neg (show ¬ (1 : Int32) = 0 by decide), a2, Option.bind_some]
      rcases hr with hr | ⟨hr, hmu⟩
      · refine ⟨tp_nI i, σ', τ', ?_, ?_, I1, R1, t1⟩
        · show (if r = 0 then _ else _) = _
          rw [if_pos hr]
        · show (if r ≤ 0 then _ else _) = _
          rw [if_pos (by rw [hr]; decide)]
          show fM_steps_L25 x (n + 1) (tp_nI i) 0 τ' = _
          rw [fM_steps_L25, if_pos rfl]
      · have hb' : 2 * tp_mu σ' + 1 ≤ b ∨ (2 * tp_mu σ' ≤ b ∧ (tp_g1 σ' ∨ tp_g3 σ')) := by
          rcases hmu with h | ⟨h, hg⟩
          · left
            rcases hb with h1 | h1 <;> omega
          · right
            refine ⟨?_, hg⟩
            rcases hb with h1 | ⟨h1, h2⟩
            · omega
            · have := hgm h2; omega
        obtain ⟨r2, σ2, τ2, b1, b2, I2, R2, t2⟩ := ih (i + 1) (n + 1) σ' τ' (by omega) (by omega) I1 R1 hb'
        refine ⟨r2, σ2, τ2, ?_, ?_, I2, R2, t2.trans t1⟩
        · show (if r = 0 then _ else _) = _
          rw [if_neg (fun w => by rw [w] at hr; exact absurd hr (by decide)), tp_nI_s]; exact b1
        · show (if r ≤ 0 then _ else (if x ≤ tp_nI i + 1 then _ else _)) = _
          rw [if_neg (Int32.not_le.mpr hr), tp_nI_s]
          by_cases w : x ≤ tp_nI (i + 1)
          · rw [if_pos w]; rw [if_pos w] at b2; exact b2
          · rw [if_neg w]; rw [if_neg w] at b2; exact b2
theorem tp_steps_sim {σ τ : tp_St} (I : tp_Inv σ) (R : tp_Rel tp_noX σ τ) (x : Int32) : tp_Ok (fC_steps σ x) (fM_steps τ x) tp_mp1 := by
  rw [fC_steps, fM_steps]
  by_cases h : 0 ≤ x
  · rw [if_pos h, if_pos h]
    obtain ⟨N, hN, e⟩ := tp_big h
    have k1 : (if 1000000 < x then 1000000 else x) = tp_nI (min N 1000000) := by
      rw [e]
      by_cases z : 1000000 < N
      · rw [if_pos (show (1000000 : Int32) < Int32.ofNat N from (Int32.ofNat_lt_iff_lt (a := 1000000) (by omega) hN).mpr z), Nat.min_eq_right (by omega)]; rfl
      · rw [if_neg (show ¬ (1000000 : Int32) < Int32.ofNat N from fun w => z ((Int32.ofNat_lt_iff_lt (a := 1000000) (by omega) hN).mp w)), Nat.min_eq_left (by omega)]
    have hm := tp_mu_le σ
    obtain ⟨r, σ', τ', a1, a2, I1, R1, t1⟩ := tp_steps_loop (x := x) (M := min N 1000000) (by omega) (fun i hi => by
      rw [e, show (Int32.ofNat N ≤ tp_nI i ↔ N ≤ i) from Int32.ofNat_le_iff_le hN (by omega)]; omega) 10401 0 1000001 σ (tp_up τ 0 0 0) (by omega) (by omega) I (R.thrown 0) (.inl (by omega))
    rw [k1]
    refine ⟨0, r, σ', r, τ', a1, ?_, I1, R1, by rw [t1]; rfl, fun _ => rfl, by omega⟩
    rw [← a2]
    by_cases w : x ≤ 0
    · rw [if_pos w]
      show _ = fM_steps_L25 x 1000001 (tp_nI 0) (if x ≤ (0 : Int32) then 0 else 1) (tp_up τ 0 0 0)
      rw [if_pos w]; rfl
    · rw [if_neg w]
      show _ = fM_steps_L25 x 1000001 (tp_nI 0) (if x ≤ (0 : Int32) then 0 else 1) (tp_up τ 0 0 0)
      rw [if_neg w]; rfl
  · rw [if_neg h, if_neg h]
    have h0 : x ≤ 0 := Int32.le_of_lt (Int32.not_le.mp h)
    refine ⟨3, 0, σ, 0, tp_up τ 0 0 1, rfl, ?_, I, R.thrown 1, rfl, fun z => by omega, by omega⟩
    rw [if_pos h0]
    show fM_steps_L25 x (1000000 + 1) 0 0 (tp_up τ 0 0 1) = _
    rw [fM_steps_L25, if_pos rfl]
theorem tp_mk_0 {l g : Int32} (h : tp_VV l g) : tp_mK l g = 0 ↔ l = -1 := by
  rcases h with ⟨h1, h2⟩ | ⟨a, ha, h1, h2⟩ | ⟨a, b, hab, hb, h1, h2⟩
  · rw [h1, h2]; exact ⟨fun _ => rfl, fun _ => tp_mk_z⟩
  · rw [h1, h2]; exact ⟨fun z => absurd z (tp_mk_n1 a ha), fun z => absurd z (tp_nI_m (by omega))⟩
  · rw [h1, h2]; exact ⟨fun z => absurd z (tp_mk_n2 a (by omega) b hb hab), fun z => absurd z (tp_nI_m (by omega))⟩
theorem tp_nc_0 {σ : tp_St} {c : Nat} : tp_nc σ c = 0 ↔ σ 4 c = -1 := by
  unfold tp_nc
  by_cases y : σ 4 c = -1
  · rw [if_pos y]; exact ⟨fun _ => y, fun _ => rfl⟩
  · rw [if_neg y]
    by_cases z : σ 5 c = -1
    · rw [if_pos z]; exact ⟨fun w => by omega, fun w => absurd w y⟩
    · rw [if_neg z]; exact ⟨fun w => by omega, fun w => absurd w y⟩
theorem tp_lt43 {y : Int32} (h : ¬ y < 0) (h4 : y < 4) : ∃ i, i < 4 ∧ y = tp_nI i := by
  rcases tp_int_cases 4 (by omega) y with z | z | z
  · exact z
  · exact absurd z h
  · exact absurd (Int32.lt_of_lt_of_le h4 z) Int32.lt_irrefl
theorem tp_le3_iff {y : Int32} (h : ¬ y < 0) : y ≤ 3 ↔ y < 4 := by
  constructor
  · intro z; exact Int32.lt_of_le_of_lt z (by decide)
  · intro z
    obtain ⟨i, hi, e⟩ := tp_lt43 h z
    rw [e]; exact (tp_nI_le (j := 3) (by omega) (by omega)).mpr (by omega)
theorem tp_write_sim {σ τ : tp_St} (I : tp_Inv σ) (R : tp_Rel tp_noX σ τ) (x y w : Int32) : tp_Ok0 (fC_write σ x y w) (fM_write τ x y w) tp_mpI := by
  have hno : ∀ (b1 : fC_isChunk σ x = some 0) (b2 : fM_isChunk τ x = some 0), tp_Ok0 (fC_write σ x y w) (fM_write τ x y w) tp_mpI := fun b1 b2 =>
    ⟨1, 0, σ, tp_up τ 0 0 1, by rw [fC_write, b1]; rfl, by rw [fM_write, b2]; rfl, I, R.thrown 1, rfl, by omega⟩
  rcases tp_int_cases 400 (by omega) x with ⟨c, hc, e⟩ | z | z
  · by_cases h3 : σ 3 c = 0
    · exact hno (by rw [e, tp_C_isChunk hc, h3]; rfl) (by rw [e, tp_M_isChunk R hc, h3]; rfl)
    · rw [fC_write, fM_write, e, tp_C_isChunk hc, tp_M_isChunk R hc, Option.bind_some, Option.bind_some, decide_eq_true h3, tp_if_bI, tp_if_bI, if_pos rfl, if_pos rfl]
      by_cases h1 : y < 0
      · rw [if_pos h1, if_pos h1]; exact ⟨1, 0, σ, tp_up τ 0 0 1, rfl, rfl, I, R.thrown 1, rfl, by omega⟩
      · rw [if_neg h1, if_neg h1]
        by_cases h4 : y < 4
        · obtain ⟨i, hi, ei⟩ := tp_lt43 h1 h4
          rw [if_pos h4, if_pos ((tp_le3_iff h1).mpr h4), tp_C_copies hc, Option.bind_some, if_neg (tp_b4 hc), tp_t4 hc, R.cp hc, ei, tp_ix_C, tp_ix_M, if_neg (tp_bw (by omega)), if_neg (tp_bw (by omega)), tp_nI_t (by omega)]
          by_cases h5 : σ 4 c = -1
          · rw [tp_nc_0.mpr h5, if_pos (show tp_nI 0 = 0 from rfl), if_pos ((tp_mk_0 (I.vv hc)).mpr h5)]; exact ⟨2, 0, σ, tp_up τ 0 0 2, rfl, rfl, I, R.thrown 2, rfl, by omega⟩
          · rw [if_neg (fun v => h5 (tp_nc_0.mp ((tp_nI_0 (by have := tp_nc_lt σ c; omega)).mp v))), if_neg (fun v => h5 ((tp_mk_0 (I.vv hc)).mp v))]
            refine ⟨0, 0, tp_up σ 6 (4 * c + i) w, tp_up (tp_up τ 0 0 0) 5 (4 * c + i) w, rfl, rfl, I, ⟨R.1, R.2.1, fun k hk => ?_, R.2.2.2⟩, rfl, by omega⟩
            show (if k = 4 * c + i then w else τ 5 k) = if k = 4 * c + i then w else σ 6 k
            rw [R.2.2.1 k hk]
        · rw [if_neg h4, if_neg (fun v => h4 ((tp_le3_iff h1).mp v))]; exact ⟨1, 0, σ, tp_up τ 0 0 1, rfl, rfl, I, R.thrown 1, rfl, by omega⟩
  · exact hno (tp_C_isChunk_o (.inl z)) (tp_M_isChunk_o (.inl z))
  · exact hno (tp_C_isChunk_o (.inr z)) (tp_M_isChunk_o (.inr z))
theorem tp_read_sim {σ τ : tp_St} (I : tp_Inv σ) (R : tp_Rel tp_noX σ τ) (x y : Int32) : tp_Ok (fC_read σ x y) (fM_read τ x y) tp_mpI := by
  have hno : ∀ (b1 : fC_isChunk σ x = some 0) (b2 : fM_isChunk τ x = some 0), tp_Ok (fC_read σ x y) (fM_read τ x y) tp_mpI := fun b1 b2 =>
    ⟨1, 0, σ, 0, tp_up τ 0 0 1, by rw [fC_read, b1]; rfl, by rw [fM_read, b2]; rfl, I, R.thrown 1, rfl, fun z => by omega, by omega⟩
  rcases tp_int_cases 400 (by omega) x with ⟨c, hc, e⟩ | z | z
  · by_cases h3 : σ 3 c = 0
    · exact hno (by rw [e, tp_C_isChunk hc, h3]; rfl) (by rw [e, tp_M_isChunk R hc, h3]; rfl)
    · rw [fC_read, fM_read, e, tp_C_isChunk hc, tp_M_isChunk R hc, Option.bind_some, Option.bind_some, decide_eq_true h3, tp_if_bI, tp_if_bI, if_pos rfl, if_pos rfl]
      by_cases h1 : y < 0
      · rw [if_pos h1, if_pos h1]; exact ⟨1, 0, σ, 0, tp_up τ 0 0 1, rfl, rfl, I, R.thrown 1, rfl, fun z => by omega, by omega⟩
      · rw [if_neg h1, if_neg h1]
        by_cases h4 : y < 4
        · obtain ⟨i, hi, ei⟩ := tp_lt43 h1 h4
          rw [if_pos h4, if_pos ((tp_le3_iff h1).mpr h4), tp_C_copies hc, Option.bind_some, if_neg (tp_b4 hc), tp_t4 hc, R.cp hc, ei, tp_ix_C, tp_ix_M, if_neg (tp_bw (by omega)), if_neg (tp_bw (by omega)), tp_nI_t (by omega)]
          by_cases h5 : σ 4 c = -1
          · rw [tp_nc_0.mpr h5, if_pos (show tp_nI 0 = 0 from rfl), if_pos ((tp_mk_0 (I.vv hc)).mpr h5)]; exact ⟨2, 0, σ, 0, tp_up τ 0 0 2, rfl, rfl, I, R.thrown 2, rfl, fun z => by omega, by omega⟩
          · rw [if_neg (fun v => h5 (tp_nc_0.mp ((tp_nI_0 (by have := tp_nc_lt σ c; omega)).mp v))), if_neg (fun v => h5 ((tp_mk_0 (I.vv hc)).mp v))]
            exact ⟨0, σ 6 (4 * c + i), σ, τ 5 (4 * c + i), tp_up τ 0 0 0, rfl, rfl, I, R.thrown 0, rfl, fun _ => (R.2.2.1 (4 * c + i) (by omega)).symm, by omega⟩
        · rw [if_neg h4, if_neg (fun v => h4 ((tp_le3_iff h1).mp v))]; exact ⟨1, 0, σ, 0, tp_up τ 0 0 1, rfl, rfl, I, R.thrown 1, rfl, fun z => by omega, by omega⟩
  · exact hno (tp_C_isChunk_o (.inl z)) (tp_M_isChunk_o (.inl z))
  · exact hno (tp_C_isChunk_o (.inr z)) (tp_M_isChunk_o (.inr z))
theorem tp_fail_loop {d : Nat} (hd : d < 12) (w : Int32) : ∀ k i σ τ, i + k = 400 → tp_Inv σ → tp_Rel (fun x => x = d) σ τ → (∀ c, c < i → tp_oN σ c d = false) →
    ∃ σ' τ', fC_fail_L25 (tp_nI d) w (k + 1) (tp_nI i) σ = some (0, w, σ') ∧ fM_fail_L34 (tp_nI d) w (k + 1) (tp_nI i) τ = some (w, τ') ∧ tp_Inv σ' ∧ tp_Rel tp_noX σ' τ' ∧ τ' 0 = τ 0 := by
  intro k
  induction k with
  | zero =>
    intro i σ τ hk I R hz
    have e : i = 400 := by omega
    have h0 : tp_cn σ d = 0 := tp_sumF_all0 (fun c hc => by show (tp_oN σ c d).toNat = 0; rw [hz c (by omega)]; rfl)
    refine ⟨tp_gone σ d, tp_up τ 1 d 0, ?_, ?_, I.gone hd h0, ?_, rfl⟩
    · rw [e, fC_fail_L25, if_pos (by decide), tp_C_takeAway hd]; rfl
    · rw [e, fM_fail_L34, if_pos (by decide), if_neg (tp_bd hd), tp_td hd]
    · refine ⟨fun x hx => ?_, R.2⟩
      show ((if x = d then 0 else τ 1 x) = (if x = d then 0 else σ 0 x) ∨ _) ∧ (0 < (if x = d then 0 else σ 0 x) → τ 2 x = (if x = d then 0 else σ 2 x))
      by_cases z : x = d
      · rw [if_pos z, if_pos z, if_pos z]; exact ⟨.inl rfl, fun v => absurd v (by decide)⟩
      · rw [if_neg z, if_neg z, if_neg z]
        exact ⟨.inl ((R.1 x hx).1.elim id (fun v => absurd v.1 z)), (R.1 x hx).2⟩
  | succ k ih =>
    intro i σ τ hk I R hz
    have hi : i < 400 := by omega
    rw [fC_fail_L25, if_neg (tp_g4 hi), tp_C_isOn' hi d, Option.bind_some, tp_if_bI, fM_fail_L34, if_neg (tp_g4 hi), tp_M_isOn I R hi hd, Option.bind_some, tp_if_bI, if_neg (tp_b4 hi), if_neg (tp_b4 hi), tp_t4 hi, tp_nI_s]
    cases ho : tp_oN σ i d with
    | false =>
      rw [if_neg (by decide), if_neg (by decide), tp_up_self]
      exact ih (i + 1) σ τ (by omega) I R (fun c hc => by
        by_cases z : c = i
        · rw [z]; exact ho
        · exact hz c (by omega))
    | true =>
      obtain ⟨σ1, r1, I1, o1, _, _, _, _, R1⟩ := tp_drop_spec I hi hd ho
      have k1 := R1 _ τ R (fun _ => rfl)
      rw [if_pos rfl, if_pos rfl, r1, Option.bind_some, tp_bt_n hd]
      obtain ⟨σ', τ', a1, a2, a3, a4, a5⟩ := ih (i + 1) σ1 _ (by omega) I1 k1 (fun c hc => by
        rw [o1 c d hd]
        by_cases z : c = i
        · rw [z, decide_eq_true rfl, decide_eq_true rfl]; exact Bool.and_false _
        · rw [hz c (by omega)]; rfl)
      exact ⟨σ', τ', a1, a2, a3, a4, a5⟩
theorem tp_fail_sim {σ τ : tp_St} (I : tp_Inv σ) (R : tp_Rel tp_noX σ τ) (x : Int32) : tp_Ok (fC_fail σ x) (fM_fail τ x) tp_mp1 := by
  have hno : ∀ (b1 : fC_isThere σ x = some 0) (b2 : fM_isDisk τ x = some 0), tp_Ok (fC_fail σ x) (fM_fail τ x) tp_mp1 := fun b1 b2 =>
    ⟨1, 0, σ, 0, tp_up τ 0 0 1, by rw [fC_fail, b1]; rfl, by rw [fM_fail, b2]; rfl, I, R.thrown 1, rfl, fun z => by omega, by omega⟩
  rcases tp_int_cases 12 (by omega) x with ⟨d, hd, e⟩ | z | z
  · cases ht : tp_th σ d with
    | false => exact hno (by rw [e, tp_C_isThere hd, ht]; rfl) (by rw [e, tp_M_isDisk R hd, ht]; rfl)
    | true =>
      have R0 := R.thrown 0
      rw [fC_fail, fM_fail, e, tp_C_isThere hd, tp_M_isDisk R hd, ht, Option.bind_some, Option.bind_some, tp_if_bI, tp_if_bI, if_pos rfl, if_pos rfl, if_neg (tp_bd hd), tp_td hd, tp_M_used I R0 hd, Option.bind_some, I.2.1 d hd]
      obtain ⟨σ', τ', a1, a2, a3, a4, a5⟩ := tp_fail_loop hd (tp_nI (tp_cn σ d)) 400 0 σ (tp_up τ 0 0 0) rfl I (R0.mono (fun _ _ z => z.elim)) (fun c hc => by omega)
      exact ⟨0, _, σ', _, τ', a1, a2, a3, a4, by rw [a5]; rfl, fun _ => rfl, by omega⟩
  · exact hno (tp_C_isThere_o (.inl z)) (tp_M_isDisk_o (.inl z))
  · exact hno (tp_C_isThere_o (.inr z)) (tp_M_isDisk_o (.inr z))
theorem tp_leave_sim {σ τ : tp_St} (I : tp_Inv σ) (R : tp_Rel tp_noX σ τ) (x : Int32) : tp_Ok (fC_leave σ x) (fM_leave τ x) tp_mpL := by
  have hno : ∀ (b1 : fC_isThere σ x = some 0) (b2 : fM_isDisk τ x = some 0), tp_Ok (fC_leave σ x) (fM_leave τ x) tp_mpL := fun b1 b2 =>
    ⟨1, 0, σ, 0, tp_up τ 0 0 1, by rw [fC_leave, b1]; rfl, by rw [fM_leave, b2]; rfl, I, R.thrown 1, rfl, fun z => by omega, by omega⟩
  rcases tp_int_cases 12 (by omega) x with ⟨d, hd, e⟩ | z | z
  · cases ht : tp_th σ d with
    | false => exact hno (by rw [e, tp_C_isThere hd, ht]; rfl) (by rw [e, tp_M_isDisk R hd, ht]; rfl)
    | true =>
      have h0 : 0 < σ 0 d := of_decide_eq_true ht
      have no2 : tp_Ok (some (2, 0, σ)) (some (0, tp_up τ 0 0 2)) tp_mpL := ⟨2, 0, σ, 0, tp_up τ 0 0 2, rfl, rfl, I, R.thrown 2, rfl, fun z => by omega, by omega⟩
      rw [fC_leave, fM_leave, e, tp_C_isThere hd, tp_M_isDisk R hd, ht, Option.bind_some, Option.bind_some, tp_if_bI, tp_if_bI, if_pos rfl, if_pos rfl, if_neg (tp_bd hd), if_neg (tp_bd hd), tp_td hd, (R.1 d hd).2 h0]
      by_cases hl : σ 2 d = 0
      · have e0 := tp_M_cw I R (k := 0) (by omega)
        have e1 := tp_M_cw I R (k := 1) (by omega)
        have e2 := tp_C_cw (σ := σ) (k := 2) (by omega)
        have q0 : fM_countWith τ 0 = some (tp_nI (tp_cw σ 0)) := e0
        have q1 : fM_countWith τ 1 = some (tp_nI (tp_cw σ 1)) := e1
        have q2 : fC_chunksWith σ 2 = some (tp_nI (tp_cw σ 2)) := e2
        have ha := tp_al_cw σ
        have hle := tp_al_le σ
        have hs : tp_nI (tp_cw σ 0) + tp_nI (tp_cw σ 1) = tp_nI (tp_cw σ 0 + tp_cw σ 1) := (Int32.ofNat_add _ _).symm
        rw [if_pos hl, if_pos hl, q0, q1, q2, tp_C_al, tp_M_al I R, tp_C_cap, tp_M_cap R]
        simp only [Option.bind_some]
        rw [hs]
        by_cases h2 : tp_cw σ 0 + tp_cw σ 1 = 0
        · rw [if_pos ((tp_nI_le (by omega) (by omega)).mpr (by omega)), if_pos ((tp_nI_np (by omega)).mpr h2)]
          by_cases h3 : tp_nI (tp_al σ) ≤ tp_cap (tp_qB σ (tp_nI d)) (σ 0)
          · rw [if_pos h3, if_pos h3, tp_vn1]
            have ho1 : (tp_up σ 2 d 1) 1 d = tp_nI (tp_cn σ d) := I.2.1 d hd
            have hh : fC_hasLeft (tp_up σ 2 d 1) (tp_nI d) = some (tp_bI (decide (tp_cn σ d = 0))) := by
              rw [tp_C_hasLeft hd, ho1, show tp_up σ 2 d 1 2 d = 1 from tp_up_eq]
              congr 2
              by_cases z : tp_cn σ d = 0
              · rw [z]; rfl
              · rw [decide_eq_false z, decide_eq_false (fun v => z ((tp_nI_0 (by have := tp_cn_le σ d; omega)).mp v))]; rfl
            rw [hh, Option.bind_some, tp_if_bI, ho1]
            by_cases z : tp_cn σ d = 0
            · -- it has no copies: it is there no more
              have I1 : tp_Inv (tp_gone (tp_up σ 2 d 1) d) := by
                have k := I.gone hd z
                refine ⟨k.1, k.2.1, fun y hy => ?_, k.2.2.2⟩
                show (if y = d then 0 else if y = d then 1 else σ 2 y) = 0 ∨ ((if y = d then 0 else if y = d then 1 else σ 2 y) = 1 ∧ 0 < tp_cn σ y)
                by_cases v : y = d
                · exact .inl (if_pos v)
                · rw [if_neg v, if_neg v]; exact I.2.2.1 y hy
              have R1 : tp_Rel (fun y => y = d) (tp_gone (tp_up σ 2 d 1) d) (tp_up (tp_up τ 0 0 0) 2 d 1) := by
                refine ⟨fun y hy => ?_, R.2⟩
                show (τ 1 y = (if y = d then 0 else σ 0 y) ∨ (y = d ∧ (if y = d then 0 else σ 0 y) = 0 ∧ 0 < τ 1 y ∧ (if y = d then 1 else τ 2 y) ≠ 0)) ∧ (0 < (if y = d then 0 else σ 0 y) → (if y = d then 1 else τ 2 y) = (if y = d then 0 else if y = d then 1 else σ 2 y))
                by_cases v : y = d
                · simp only [if_pos v]
                  exact ⟨.inr ⟨v, trivial, by rw [v, R.pl hd]; exact h0, by decide⟩, fun u => absurd u (by decide)⟩
                · simp only [if_neg v]
                  exact ⟨.inl (R.pl hy), (R.1 y hy).2⟩
              obtain ⟨τ', t1, t2, t3⟩ := tp_M_tidy I1 R1
              have hu : fM_used (tp_up (tp_up τ 0 0 0) 2 d 1) (tp_nI d) = some (tp_nI (tp_cn σ d)) := tp_M_used I1 R1 hd
              rw [decide_eq_true z, if_pos rfl, tp_C_takeAway hd, Option.bind_some, hu, Option.bind_some, t1, Option.bind_some]
              exact ⟨0, _, _, _, τ', rfl, rfl, I1, t2, by rw [t3]; rfl, fun _ => rfl, by omega⟩
            · have I1 : tp_Inv (tp_up σ 2 d 1) := by
                refine ⟨I.1, I.2.1, fun y hy => ?_, I.2.2.2⟩
                show (if y = d then 1 else σ 2 y) = 0 ∨ ((if y = d then 1 else σ 2 y) = 1 ∧ 0 < tp_cn σ y)
                by_cases v : y = d
                · rw [if_pos v, v]; exact .inr ⟨rfl, by omega⟩
                · rw [if_neg v]; exact I.2.2.1 y hy
              have R1 : tp_Rel tp_noX (tp_up σ 2 d 1) (tp_up (tp_up τ 0 0 0) 2 d 1) := by
                refine ⟨fun y hy => ⟨.inl (R.pl hy), fun u => ?_⟩, R.2⟩
                show (if y = d then 1 else τ 2 y) = (if y = d then 1 else σ 2 y)
                by_cases v : y = d
                · rw [if_pos v, if_pos v]
                · rw [if_neg v, if_neg v]; exact (R.1 y hy).2 u
              obtain ⟨τ', t1, t2, t3⟩ := tp_M_tidy I1 R1
              have hu : fM_used (tp_up (tp_up τ 0 0 0) 2 d 1) (tp_nI d) = some (tp_nI (tp_cn σ d)) := tp_M_used I1 R1 hd
              rw [decide_eq_false z, if_neg (by decide), hu, Option.bind_some, t1, Option.bind_some]
              exact ⟨0, _, _, _, τ', rfl, rfl, I1, t2, by rw [t3]; rfl, fun _ => rfl, by omega⟩
          · rw [if_neg h3, if_neg h3]
            exact ⟨4, 0, σ, 0, tp_up τ 0 0 3, rfl, rfl, I, R.thrown 3, rfl, fun z => by omega, by omega⟩
        · rw [if_neg (fun v => by have := (tp_nI_le (by omega) (by omega)).mp v; omega), if_neg (fun v => h2 ((tp_nI_np (by omega)).mp v))]
          exact no2
      · rw [if_neg hl, if_neg hl]; exact no2
  · exact hno (tp_C_isThere_o (.inl z)) (tp_M_isDisk_o (.inl z))
  · exact hno (tp_C_isThere_o (.inr z)) (tp_M_isDisk_o (.inr z))
theorem tp_stay_sim {σ τ : tp_St} (I : tp_Inv σ) (R : tp_Rel tp_noX σ τ) (x : Int32) : tp_Ok0 (fC_stay σ x) (fM_stay τ x) tp_mpI := by
  have hno : ∀ (b1 : fC_isThere σ x = some 0) (b2 : fM_isDisk τ x = some 0), tp_Ok0 (fC_stay σ x) (fM_stay τ x) tp_mpI := fun b1 b2 =>
    ⟨1, 0, σ, tp_up τ 0 0 1, by rw [fC_stay, b1]; rfl, by rw [fM_stay, b2]; rfl, I, R.thrown 1, rfl, by omega⟩
  rcases tp_int_cases 12 (by omega) x with ⟨d, hd, e⟩ | z | z
  · cases ht : tp_th σ d with
    | false => exact hno (by rw [e, tp_C_isThere hd, ht]; rfl) (by rw [e, tp_M_isDisk R hd, ht]; rfl)
    | true =>
      have h0 : 0 < σ 0 d := of_decide_eq_true ht
      rw [fC_stay, fM_stay, e, tp_C_isThere hd, tp_M_isDisk R hd, ht, Option.bind_some, Option.bind_some, tp_if_bI, tp_if_bI, if_pos rfl, if_pos rfl, if_neg (tp_bd hd), if_neg (tp_bd hd), tp_td hd, (R.1 d hd).2 h0, tp_vn0]
      by_cases hl : σ 2 d = 0
      · rw [if_pos hl, if_pos hl]; exact ⟨2, 0, σ, tp_up τ 0 0 2, rfl, rfl, I, R.thrown 2, rfl, by omega⟩
      · rw [if_neg hl, if_neg hl]
        refine ⟨0, 0, tp_up σ 2 d 0, tp_up (tp_up τ 0 0 0) 2 d 0, rfl, rfl, ⟨I.1, I.2.1, fun y hy => ?_, I.2.2.2⟩, ⟨fun y hy => ⟨.inl (R.pl hy), fun u => ?_⟩, R.2⟩, rfl, by omega⟩
        · show (if y = d then 0 else σ 2 y) = 0 ∨ ((if y = d then 0 else σ 2 y) = 1 ∧ 0 < tp_cn σ y)
          by_cases v : y = d
          · exact .inl (if_pos v)
          · rw [if_neg v]; exact I.2.2.1 y hy
        · show (if y = d then 0 else τ 2 y) = (if y = d then 0 else σ 2 y)
          by_cases v : y = d
          · rw [if_pos v, if_pos v]
          · rw [if_neg v, if_neg v]; exact (R.1 y hy).2 u
  · exact hno (tp_C_isThere_o (.inl z)) (tp_M_isDisk_o (.inl z))
  · exact hno (tp_C_isThere_o (.inr z)) (tp_M_isDisk_o (.inr z))
end
section
theorem tp_no_oN {σ : tp_St} {c : Nat} (h : tp_VV (σ 4 c) (σ 5 c)) (hn : ∀ e, e < 12 → tp_oN σ c e = false) : σ 4 c = -1 ∧ σ 5 c = -1 := by
  rcases h with h | ⟨a, ha, h1, h2⟩ | ⟨a, b, hab, hb, h1, h2⟩
  · exact h
  · have := hn a ha
    rw [tp_oN, h1, decide_eq_true rfl] at this; cases this
  · have := hn a (by omega)
    rw [tp_oN, h1, decide_eq_true rfl] at this; cases this
theorem tp_Rel.freed {X : Nat → Prop} {σ τ : tp_St} {c : Nat} {m : Int32} (R : tp_Rel X σ (tp_up τ 4 c m)) (h4 : σ 4 c = -1) (h5 : σ 5 c = -1) : tp_Rel X (tp_up σ 3 c 0) (tp_up (tp_up τ 3 c 0) 4 c 0) := by
  refine ⟨R.1, fun k hk => ?_, R.2.2⟩
  show (if k = c then 0 else τ 3 k) = (if k = c then 0 else σ 3 k) ∧ (if k = c then 0 else τ 4 k) = tp_mK (σ 4 k) (σ 5 k)
  have k3 : τ 3 k = σ 3 k := R.th hk
  have k4 : (if k = c then m else τ 4 k) = tp_mK (σ 4 k) (σ 5 k) := R.cp hk
  by_cases z : k = c
  · rw [if_pos z, if_pos z, if_pos z, z, h4, h5]; exact ⟨rfl, tp_mk_z.symm⟩
  · rw [if_neg z] at k4
    rw [if_neg z, if_neg z, if_neg z]; exact ⟨k3, k4⟩
theorem tp_Inv.freed {σ : tp_St} {c : Nat} (I : tp_Inv σ) (h4 : σ 4 c = -1) (h5 : σ 5 c = -1) : tp_Inv (tp_up σ 3 c 0) := by
  refine ⟨I.1, I.2.1, I.2.2.1, fun k hk => ?_⟩
  show ((if k = c then 0 else σ 3 k) = 0 ∧ σ 4 k = -1 ∧ σ 5 k = -1) ∨ ((if k = c then 0 else σ 3 k) = 1 ∧ tp_VV (σ 4 k) (σ 5 k))
  by_cases z : k = c
  · rw [if_pos z, z]; exact .inl ⟨rfl, h4, h5⟩
  · rw [if_neg z]; exact I.2.2.2 k hk
abbrev tp_anyX : Nat → Prop := fun _ => True
theorem tp_free_sim {σ τ : tp_St} (I : tp_Inv σ) (R : tp_Rel tp_noX σ τ) (x : Int32) : tp_Ok (fC_free σ x) (fM_free τ x) tp_mp1 := by
  have hno : ∀ (b1 : fC_isChunk σ x = some 0) (b2 : fM_isChunk τ x = some 0), tp_Ok (fC_free σ x) (fM_free τ x) tp_mp1 := fun b1 b2 =>
    ⟨1, 0, σ, 0, tp_up τ 0 0 1, by rw [fC_free, b1]; rfl, by rw [fM_free, b2]; rfl, I, R.thrown 1, rfl, fun z => by omega, by omega⟩
  rcases tp_int_cases 400 (by omega) x with ⟨c, hc, e⟩ | z | z
  · by_cases h3 : σ 3 c = 0
    · exact hno (by rw [e, tp_C_isChunk hc, h3]; rfl) (by rw [e, tp_M_isChunk R hc, h3]; rfl)
    · have R0 : tp_Rel tp_anyX σ (tp_up τ 0 0 0) := (R.thrown 0).mono (fun _ _ z => z.elim)
      have main : ∃ σ', fC_free σ (tp_nI c) = some (0, tp_nI (tp_nc σ c), σ') ∧ tp_Inv σ' ∧ tp_Rel tp_anyX σ' (tp_up (tp_up (tp_up τ 0 0 0) 3 c 0) 4 c 0) := by
        rw [fC_free, tp_C_isChunk hc, Option.bind_some, decide_eq_true h3, tp_if_bI, if_pos rfl, tp_C_copies hc, Option.bind_some, if_neg (tp_b4 hc), tp_t4 hc, tp_vn0]
        rcases I.vv hc with ⟨h4, h5⟩ | ⟨a, ha, h4, h5⟩ | ⟨a, b, hab, hb, h4, h5⟩
        · rw [if_pos h5, if_pos h4]
          exact ⟨_, rfl, I.freed h4 h5, tp_Rel.freed (m := (tp_up τ 0 0 0) 4 c) (by rw [tp_up_self]; exact R0) h4 h5⟩
        · have oa : tp_oN σ c a = true := by rw [tp_oN, h4, decide_eq_true rfl]; rfl
          obtain ⟨σ1, r1, I1, o1, _, _, _, _, R1⟩ := tp_drop_spec I hc ha oa
          have hn := tp_no_oN (I1.vv hc) (fun e he => by
            rw [o1 c e he, tp_oN_1 h4 h5 ha he, decide_eq_true (rfl : c = c), Bool.true_and]
            cases decide (e = a) <;> rfl)
          rw [if_pos h5, if_neg (by rw [h4]; exact tp_nI_m (by omega)), h4, r1, Option.bind_some]
          exact ⟨_, rfl, I1.freed hn.1 hn.2, (R1 tp_anyX _ R0 (fun _ => trivial)).freed hn.1 hn.2⟩
        · have hba : ¬ tp_nI a = tp_nI b := fun z => absurd ((tp_nI_eq (by omega) (by omega)).mp z) (by omega)
          have ob : tp_oN σ c b = true := by rw [tp_oN, h5, decide_eq_true (rfl : tp_nI b = tp_nI b), Bool.or_true]
          obtain ⟨σ1, r1, I1, o1, ⟨_, _, _, s4⟩, _, _, _, R1⟩ := tp_drop_spec I hc hb ob
          have e4 : σ1 4 c = tp_nI a := by rw [s4, tp_ot, h4, if_neg hba]
          have hoe : ∀ e, e < 12 → tp_oN σ1 c e = decide (e = a) := fun e he => by
            rw [o1 c e he, tp_oN, h4, h5, decide_eq_true (rfl : c = c), Bool.true_and]
            by_cases z : e = b
            · rw [decide_eq_true z, decide_eq_false (show ¬ e = a by omega)]; exact Bool.and_false _
            · rw [decide_eq_false z, Bool.not_false, Bool.and_true, decide_eq_false (fun w : tp_nI b = tp_nI e => z ((tp_nI_eq (by omega) (by omega)).mp w).symm), Bool.or_false]
              exact decide_eq_decide.mpr ⟨fun w => ((tp_nI_eq (by omega) (by omega)).mp w).symm, fun w => by rw [w]⟩
          have oa : tp_oN σ1 c a = true := by rw [hoe a (by omega)]; exact decide_eq_true rfl
          obtain ⟨σ2, r2, I2, o2, _, _, _, _, R2⟩ := tp_drop_spec I1 hc (show a < 12 by omega) oa
          have hn := tp_no_oN (I2.vv hc) (fun e he => by
            rw [o2 c e he, hoe e he, decide_eq_true (rfl : c = c), Bool.true_and]
            cases decide (e = a) <;> rfl)
          have k := R2 tp_anyX _ (R1 tp_anyX _ R0 (fun _ => trivial)) (fun _ => trivial)
          rw [tp_up_up] at k
          rw [if_neg (by rw [h5]; exact tp_nI_m (by omega)), h5, r1, Option.bind_some, if_neg (by rw [e4]; exact tp_nI_m (by omega)), e4, r2, Option.bind_some]
          exact ⟨_, rfl, I2.freed hn.1 hn.2, k.freed hn.1 hn.2⟩
      obtain ⟨σ', a1, I1, R1⟩ := main
      obtain ⟨τ', t1, t2, t3⟩ := tp_M_tidy I1 R1
      rw [e]
      refine ⟨0, tp_nI (tp_nc σ c), σ', tp_nI (tp_nc σ c), τ', a1, ?_, I1, t2, by rw [t3]; rfl, fun _ => rfl, by omega⟩
      rw [fM_free, tp_M_isChunk R hc, Option.bind_some, decide_eq_true h3, tp_if_bI, if_pos rfl, tp_M_howMany I (R.thrown 0) hc, Option.bind_some, if_neg (tp_b4 hc), tp_t4 hc, tp_vn0, t1]; rfl
  · exact hno (tp_C_isChunk_o (.inl z)) (tp_M_isChunk_o (.inl z))
  · exact hno (tp_C_isChunk_o (.inr z)) (tp_M_isChunk_o (.inr z))
def tp_pz (x : Int32) (i : Nat) : Int32 := if x ≠ -1 ∧ x.toNatClampNeg < i then x else -1
theorem tp_pz_m (i : Nat) : tp_pz (-1) i = -1 := if_neg (fun z => z.1 rfl)
theorem tp_pz_n {a : Nat} (ha : a < 12) (i : Nat) : tp_pz (tp_nI a) i = if a < i then tp_nI a else -1 := by
  rw [tp_pz, tp_td ha]
  by_cases z : a < i
  · rw [if_pos z, if_pos ⟨tp_nI_m (by omega), z⟩]
  · rw [if_neg z, if_neg (fun w => z w.2)]
theorem tp_pz_12 {x : Int32} (h : tp_DD x) : tp_pz x 12 = x := by
  rcases h with h | ⟨a, ha, h⟩
  · rw [h, tp_pz_m]
  · rw [h, tp_pz_n ha, if_pos ha]
theorem tp_M_place {σ τ : tp_St} (I : tp_Inv σ) (R : tp_Rel tp_noX σ τ) {c : Nat} (hc : c < 400) (x : Int32) : fM_place_L34 (tp_nI c) x 13 (-1) (-1) 0 τ = if x = 0 then some (σ 4 c, τ) else some (σ 5 c, τ) := by
  have h := tp_acc_loop0 (F := fun n (b : Int32 × Int32) y => fM_place_L34 (tp_nI c) x n b.1 b.2 y τ) (N := 12) (acc := fun i => (tp_pz (σ 4 c) i, tp_pz (σ 5 c) i)) (fin := if x = 0 then some (σ 4 c, τ) else some (σ 5 c, τ)) (by
    show fM_place_L34 (tp_nI c) x 1 (tp_pz (σ 4 c) 12) (tp_pz (σ 5 c) 12) (tp_nI 12) τ = _
    rw [fM_place_L34, if_pos (by decide), tp_pz_12 (I.vv hc).l, tp_pz_12 (I.vv hc).g]) (fun n i hi => by
    show fM_place_L34 (tp_nI c) x (n + 1) (tp_pz (σ 4 c) i) (tp_pz (σ 5 c) i) (tp_nI i) τ = fM_place_L34 (tp_nI c) x n (tp_pz (σ 4 c) (i + 1)) (tp_pz (σ 5 c) (i + 1)) (tp_nI i + 1) τ
    have hne : decide ((-1 : Int32) = tp_nI i) = false := decide_eq_false (tp_nI_m' (by omega))
    have hm : ¬ (0 : Int32) ≤ -1 := by decide
    rw [fM_place_L34, if_neg (tp_gd hi), tp_M_isOn I R hc hi, Option.bind_some, tp_if_bI]
    rcases I.vv hc with ⟨h4, h5⟩ | ⟨a, ha, h4, h5⟩ | ⟨a, b, hab, hb, h4, h5⟩
    · rw [tp_oN, h4, h5, hne, tp_pz_m, tp_pz_m]; rfl
    · rw [tp_oN_1 h4 h5 ha hi, h4, h5, tp_pz_m, tp_pz_m, tp_pz_n ha, tp_pz_n ha]
      by_cases z : i = a
      · rw [decide_eq_true z, if_pos rfl, if_neg (show ¬ a < i by omega), if_neg hm, if_neg hm, if_pos (by omega), z]
      · rw [decide_eq_false z, if_neg (by decide)]
        by_cases w : a < i
        · rw [if_pos w, if_pos (by omega)]
        · rw [if_neg w, if_neg (by omega)]
    · have ha : a < 12 := by omega
      have o1 : tp_oN σ c i = (decide (i = a) || decide (i = b)) := by
        rw [tp_oN, h4, h5, show decide (tp_nI a = tp_nI i) = decide (i = a) from decide_eq_decide.mpr ⟨fun w => ((tp_nI_eq (by omega) (by omega)).mp w).symm, fun w => by rw [w]⟩, show decide (tp_nI b = tp_nI i) = decide (i = b) from decide_eq_decide.mpr ⟨fun w => ((tp_nI_eq (by omega) (by omega)).mp w).symm, fun w => by rw [w]⟩]
      rw [o1, h4, h5, tp_pz_n ha, tp_pz_n ha, tp_pz_n hb, tp_pz_n hb]
      by_cases z : i = a
      · rw [decide_eq_true z, Bool.true_or, if_pos rfl, if_neg (show ¬ a < i by omega), if_neg hm, if_neg hm, if_neg (show ¬ b < i by omega), if_neg (show ¬ b < i + 1 by omega), if_pos (show a < i + 1 by omega), z]
      · rw [decide_eq_false z, Bool.false_or]
        by_cases w : i = b
        · have p : 0 ≤ tp_nI a := Int32.not_lt.mp (tp_nI_nn (by omega))
          rw [decide_eq_true w, if_pos rfl, if_pos (show a < i by omega), if_pos p, if_pos p, if_pos (show a < i + 1 by omega), if_pos (show b < i + 1 by omega), w]
        · rw [decide_eq_false w, if_neg (by decide)]
          have k1 : (if a < i then tp_nI a else -1) = (if a < i + 1 then tp_nI a else -1) := by
            by_cases v : a < i
            · rw [if_pos v, if_pos (by omega)]
            · rw [if_neg v, if_neg (by omega)]
          have k2 : (if b < i then tp_nI b else -1) = (if b < i + 1 then tp_nI b else -1) := by
            by_cases v : b < i
            · rw [if_pos v, if_pos (by omega)]
            · rw [if_neg v, if_neg (by omega)]
          rw [k1, k2])
  have e1 : tp_pz (σ 4 c) 0 = -1 := by rw [tp_pz, if_neg (fun z => absurd z.2 (by omega))]
  have e2 : tp_pz (σ 5 c) 0 = -1 := by rw [tp_pz, if_neg (fun z => absurd z.2 (by omega))]
  have h' : fM_place_L34 (tp_nI c) x 13 (tp_pz (σ 4 c) 0) (tp_pz (σ 5 c) 0) 0 τ = _ := h
  rw [e1, e2] at h'
  exact h'
theorem tp_place_sim {σ τ : tp_St} (I : tp_Inv σ) (R : tp_Rel tp_noX σ τ) (x y : Int32) : tp_Ok (fC_place σ x y) (fM_place τ x y) tp_mp1 := by
  have hno : ∀ (b1 : fC_isChunk σ x = some 0) (b2 : fM_isChunk τ x = some 0), tp_Ok (fC_place σ x y) (fM_place τ x y) tp_mp1 := fun b1 b2 =>
    ⟨1, 0, σ, 0, tp_up τ 0 0 1, by rw [fC_place, b1]; rfl, by rw [fM_place, b2]; rfl, I, R.thrown 1, rfl, fun z => by omega, by omega⟩
  rcases tp_int_cases 400 (by omega) x with ⟨c, hc, e⟩ | z | z
  · by_cases h3 : σ 3 c = 0
    · exact hno (by rw [e, tp_C_isChunk hc, h3]; rfl) (by rw [e, tp_M_isChunk R hc, h3]; rfl)
    · rw [fC_place, fM_place, e, tp_C_isChunk hc, tp_M_isChunk R hc, Option.bind_some, Option.bind_some, decide_eq_true h3, tp_if_bI, tp_if_bI, if_pos rfl, if_pos rfl, if_neg (tp_b4 hc), if_neg (tp_b4 hc), tp_t4 hc, tp_M_place I (R.thrown 0) hc]
      by_cases w : y = 0
      · rw [if_pos w, if_pos w]; exact ⟨0, _, σ, _, tp_up τ 0 0 0, rfl, rfl, I, R.thrown 0, rfl, fun _ => rfl, by omega⟩
      · rw [if_neg w, if_neg w]; exact ⟨0, _, σ, _, tp_up τ 0 0 0, rfl, rfl, I, R.thrown 0, rfl, fun _ => rfl, by omega⟩
  · exact hno (tp_C_isChunk_o (.inl z)) (tp_M_isChunk_o (.inl z))
  · exact hno (tp_C_isChunk_o (.inr z)) (tp_M_isChunk_o (.inr z))
theorem tp_C_lco {σ : tp_St} (d : Nat) : fC_leastChunkOn σ (tp_nI d) = some (tp_enc (tp_findF (fun c => tp_oN σ c d) 400 0)) := by
  have h := tp_find_loop0 (F := fun n x => fC_leastChunkOn_L2 σ (tp_nI d) n x) (N := 400) (p := fun c => tp_oN σ c d) (hit := fun j => some (tp_nI j)) (miss := some (-1)) (by
    show fC_leastChunkOn_L2 σ (tp_nI d) 1 (tp_nI 400) = _
    rw [fC_leastChunkOn_L2, if_pos (by decide)]) (fun n i hi => by
    show fC_leastChunkOn_L2 σ (tp_nI d) (n + 1) (tp_nI i) = _
    rw [fC_leastChunkOn_L2, if_neg (tp_g4 hi), tp_C_isOn' hi d, Option.bind_some, tp_if_bI])
  rw [fC_leastChunkOn]
  refine Eq.trans h ?_
  cases tp_findF (fun c => tp_oN σ c d) 400 0 <;> rfl
theorem tp_M_lco {σ τ : tp_St} (I : tp_Inv σ) (R : tp_Rel tp_noX σ τ) {d : Nat} (hd : d < 12) : fM_about_L87 (tp_nI d) 401 0 τ = some (tp_enc (tp_findF (fun c => tp_oN σ c d) 400 0), τ) := by
  have h := tp_find_loop0 (F := fun n x => fM_about_L87 (tp_nI d) n x τ) (N := 400) (p := fun c => tp_oN σ c d) (hit := fun j => some (tp_nI j, τ)) (miss := some (-1, τ)) (by
    show fM_about_L87 (tp_nI d) 1 (tp_nI 400) τ = _
    rw [fM_about_L87, if_pos (by decide)]) (fun n i hi => by
    show fM_about_L87 (tp_nI d) (n + 1) (tp_nI i) τ = _
    rw [fM_about_L87, if_neg (tp_g4 hi), tp_M_isOn I R hi hd, Option.bind_some, tp_if_bI])
  refine Eq.trans h ?_
  cases tp_findF (fun c => tp_oN σ c d) 400 0 <;> rfl
theorem tp_about_sim {σ τ : tp_St} (I : tp_Inv σ) (R : tp_Rel tp_noX σ τ) (x y : Int32) : tp_Ok (fC_about σ x y) (fM_about τ x y) tp_mpA := by
  have hno : ∀ (b1 : fC_isThere σ x = some 0) (b2 : fM_isDisk τ x = some 0), tp_Ok (fC_about σ x y) (fM_about τ x y) tp_mpA := fun b1 b2 =>
    ⟨1, 0, σ, 0, tp_up τ 0 0 1, by rw [fC_about, b1]; rfl, by rw [fM_about, b2]; rfl, I, R.thrown 1, rfl, fun z => by omega, by omega⟩
  rcases tp_int_cases 12 (by omega) x with ⟨d, hd, e⟩ | z | z
  · cases ht : tp_th σ d with
    | false => exact hno (by rw [e, tp_C_isThere hd, ht]; rfl) (by rw [e, tp_M_isDisk R hd, ht]; rfl)
    | true =>
      have h0 : 0 < σ 0 d := of_decide_eq_true ht
      have R0 := R.thrown 0
      have no3 : tp_Ok (some (3, 0, σ)) (some (0, tp_up τ 0 0 2)) tp_mpA := ⟨3, 0, σ, 0, tp_up τ 0 0 2, rfl, rfl, I, R.thrown 2, rfl, fun z => by omega, by omega⟩
      have yes : ∀ v : Int32, tp_Ok (some (0, v, σ)) (some (v, tp_up τ 0 0 0)) tp_mpA := fun v => ⟨0, v, σ, v, tp_up τ 0 0 0, rfl, rfl, I, R0, rfl, fun _ => rfl, by omega⟩
      rw [fC_about, fM_about, e, tp_C_isThere hd, tp_M_isDisk R hd, ht, Option.bind_some, Option.bind_some, tp_if_bI, tp_if_bI, if_pos rfl, if_pos rfl, if_neg (tp_bd hd), if_neg (tp_bd hd), if_neg (tp_bd hd), if_neg (tp_bd hd), tp_td hd, tp_C_free hd, tp_M_freeOn I R0 hd, tp_C_lco d, tp_M_lco I R0 hd]
      simp only [Option.bind_some]
      rcases tp_int_cases 4 (by omega) y with ⟨k, hk, ey⟩ | z | z
      · rcases (show k = 0 ∨ k = 1 ∨ k = 2 ∨ k = 3 from by omega) with k0 | k0 | k0 | k0
        · have e1 : y = 0 := by rw [ey, k0]; rfl
          subst e1
          rw [if_pos rfl, if_neg (by decide), if_pos (by decide), if_neg (by decide), if_pos rfl]
          have := yes (σ 0 d)
          rw [← R.pl hd] at this ⊢
          exact this
        · have e1 : y = 1 := by rw [ey, k0]; rfl
          subst e1
          rw [if_neg (by decide), if_pos rfl, if_neg (by decide), if_pos (by decide), if_neg (by decide), if_neg (by decide), if_pos rfl]
          exact yes _
        · have e1 : y = 2 := by rw [ey, k0]; rfl
          subst e1
          rw [if_neg (show ¬ (2 : Int32) = 0 by decide), if_neg (show ¬ (2 : Int32) = 1 by decide), if_pos (show (2 : Int32) = 2 from rfl), if_neg (show ¬ (2 : Int32) < 0 by decide), if_pos (show (2 : Int32) ≤ 3 by decide), if_neg (show ¬ (3 : Int32) ≤ 2 by decide), if_neg (show ¬ (2 : Int32) = 0 by decide), if_neg (show ¬ (2 : Int32) = 1 by decide)]
          show tp_Ok (if σ 2 d = 0 then _ else _) (if τ 2 d = 0 then _ else _) tp_mpA
          rw [(R.1 d hd).2 h0]
          by_cases w : σ 2 d = 0
          · rw [if_pos w, if_pos w]; exact yes 0
          · rw [if_neg w, if_neg w]; exact yes 1
        · have e1 : y = 3 := by rw [ey, k0]; rfl
          subst e1
          rw [if_neg (by decide), if_neg (by decide), if_neg (by decide), if_pos rfl, if_neg (by decide), if_pos (by decide), if_pos (by decide)]
          exact yes _
      · rw [if_neg (fun w => by rw [w] at z; exact absurd z (by decide)), if_neg (fun w => by rw [w] at z; exact absurd z (by decide)), if_neg (fun w => by rw [w] at z; exact absurd z (by decide)), if_neg (fun w => by rw [w] at z; exact absurd z (by decide)), if_pos z]
        exact no3
      · have z3 : ¬ y ≤ 3 := fun w => absurd (Int32.le_trans z w) (by decide)
        have z0 : ¬ y < 0 := fun w => absurd (Int32.lt_of_le_of_lt z w) (by decide)
        rw [if_neg (fun w => by rw [w] at z; exact absurd z (by decide)), if_neg (fun w => by rw [w] at z; exact absurd z (by decide)), if_neg (fun w => by rw [w] at z; exact absurd z (by decide)), if_neg (fun w => by rw [w] at z; exact absurd z (by decide)), if_neg z0, if_neg z3]
        exact no3
  · exact hno (tp_C_isThere_o (.inl z)) (tp_M_isDisk_o (.inl z))
  · exact hno (tp_C_isThere_o (.inr z)) (tp_M_isDisk_o (.inr z))
theorem tp_count_sim {σ τ : tp_St} (I : tp_Inv σ) (R : tp_Rel tp_noX σ τ) (x : Int32) : tp_Ok (fC_count σ x) (fM_count τ x) tp_mp1 := by
  have R0 := R.thrown 0
  have yes : ∀ v : Int32, tp_Ok (some (0, v, σ)) (some (v, tp_up τ 0 0 0)) tp_mp1 := fun v => ⟨0, v, σ, v, tp_up τ 0 0 0, rfl, rfl, I, R0, rfl, fun _ => rfl, by omega⟩
  have no : tp_Ok (some (3, 0, σ)) (some (0, tp_up τ 0 0 1)) tp_mp1 := ⟨3, 0, σ, 0, tp_up τ 0 0 1, rfl, rfl, I, R.thrown 1, rfl, fun z => by omega, by omega⟩
  have q1 : fC_chunksWith σ 1 = some (tp_nI (tp_cw σ 1)) := tp_C_cw (k := 1) (by omega)
  have q0 : fC_chunksWith σ 0 = some (tp_nI (tp_cw σ 0)) := tp_C_cw (k := 0) (by omega)
  have r1 : fM_countWith (tp_up τ 0 0 0) 1 = some (tp_nI (tp_cw σ 1)) := tp_M_cw I R0 (k := 1) (by omega)
  have r0 : fM_countWith (tp_up τ 0 0 0) 0 = some (tp_nI (tp_cw σ 0)) := tp_M_cw I R0 (k := 0) (by omega)
  rw [fC_count, fM_count, tp_M_countL I R0, fM_count_L35, tp_C_dt, tp_C_al, tp_C_cap, q1, q0, tp_C_col, tp_M_al I R0, tp_M_cap R0, r1, r0]
  simp only [Option.bind_some]
  rcases tp_int_cases 7 (by omega) x with ⟨k, hk, ex⟩ | z | z
  · have m6 : (tp_up τ 0 0 0) 6 0 = σ 7 0 := R.2.2.2
    rcases (show k = 0 ∨ k = 1 ∨ k = 2 ∨ k = 3 ∨ k = 4 ∨ k = 5 ∨ k = 6 from by omega) with k0 | k0 | k0 | k0 | k0 | k0 | k0
    · have e1 : x = 0 := by rw [ex, k0]; rfl
      subst e1; exact yes _
    · have e1 : x = 1 := by rw [ex, k0]; rfl
      subst e1; exact yes _
    · have e1 : x = 2 := by rw [ex, k0]; rfl
      subst e1; exact yes _
    · have e1 : x = 3 := by rw [ex, k0]; rfl
      subst e1; exact yes _
    · have e1 : x = 4 := by rw [ex, k0]; rfl
      subst e1; exact yes _
    · have e1 : x = 5 := by rw [ex, k0]; rfl
      subst e1; exact yes _
    · have e1 : x = 6 := by rw [ex, k0]; rfl
      subst e1
      have := yes (σ 7 0)
      rw [← m6] at this ⊢
      exact this
  · rw [if_neg (fun w => by rw [w] at z; exact absurd z (by decide)), if_neg (fun w => by rw [w] at z; exact absurd z (by decide)), if_neg (fun w => by rw [w] at z; exact absurd z (by decide)), if_neg (fun w => by rw [w] at z; exact absurd z (by decide)), if_neg (fun w => by rw [w] at z; exact absurd z (by decide)), if_neg (fun w => by rw [w] at z; exact absurd z (by decide)), if_neg (fun w => by rw [w] at z; exact absurd z (by decide)), if_pos z]
    exact no
  · have z6 : 6 < x := Int32.lt_of_lt_of_le (by decide : (6 : Int32) < tp_nI 7) z
    have z0 : ¬ x < 0 := fun w => absurd (Int32.lt_of_le_of_lt z w) (by decide)
    rw [if_neg (fun w => by rw [w] at z; exact absurd z (by decide)), if_neg (fun w => by rw [w] at z; exact absurd z (by decide)), if_neg (fun w => by rw [w] at z; exact absurd z (by decide)), if_neg (fun w => by rw [w] at z; exact absurd z (by decide)), if_neg (fun w => by rw [w] at z; exact absurd z (by decide)), if_neg (fun w => by rw [w] at z; exact absurd z (by decide)), if_neg (fun w => by rw [w] at z; exact absurd z (by decide)), if_neg z0, if_pos z6]
    exact no
theorem tp_step1_sim {σ τ : tp_St} (I : tp_Inv σ) (R : tp_Rel tp_noX σ τ) : ∃ r σ' τ', fC_step σ = some (r, σ') ∧ fM_step τ = some (r, τ') ∧ tp_Inv σ' ∧ tp_Rel tp_noX σ' τ' ∧ τ' 0 0 = 0 := by
  obtain ⟨r, σ', τ', a1, a2, I1, R1, t1, _⟩ := tp_step_sim I (R.thrown 0)
  exact ⟨r, σ', τ', by rw [fC_step, a1]; rfl, by rw [fM_step, a2]; rfl, I1, R1, by rw [t1]; rfl⟩
theorem tp_start_inv {σ : tp_St} (h0 : ∀ d, d < 12 → σ 0 d = 0 ∧ σ 1 d = 0 ∧ σ 2 d = 0) (h3 : ∀ c, c < 400 → σ 3 c = 0 ∧ σ 4 c = -1 ∧ σ 5 c = -1) : tp_Inv σ := by
  have hc : ∀ d, d < 12 → tp_cn σ d = 0 := fun d hd => tp_sumF_all0 (fun c hc => by
    show (tp_oN σ c d).toNat = 0
    rw [tp_oN, (h3 c hc).2.1, (h3 c hc).2.2, decide_eq_false (tp_nI_m' (by omega))]; rfl)
  exact ⟨fun d hd => ⟨0, by omega, (h0 d hd).1, by rw [hc d hd]; omega⟩, fun d hd => by rw [hc d hd]; exact (h0 d hd).2.1, fun d hd => .inl (h0 d hd).2.2, fun c hc => .inl (h3 c hc)⟩
theorem tp_start_rel {σ τ : tp_St} (h0 : ∀ d, d < 12 → σ 0 d = 0 ∧ τ 1 d = 0) (h3 : ∀ c, c < 400 → σ 3 c = 0 ∧ σ 4 c = -1 ∧ σ 5 c = -1 ∧ τ 3 c = 0 ∧ τ 4 c = 0) (h6 : ∀ k, k < 1600 → σ 6 k = 0 ∧ τ 5 k = 0) (h7 : σ 7 0 = 0) (h8 : τ 6 0 = 0) : tp_Rel tp_noX σ τ :=
  ⟨fun d hd => ⟨.inl (by rw [(h0 d hd).1, (h0 d hd).2]), fun z => by rw [(h0 d hd).1] at z; exact absurd z (by decide)⟩, fun c hc => by
    obtain ⟨a, b, c', d, e⟩ := h3 c hc
    exact ⟨by rw [a, d], by rw [b, c', e]; exact tp_mk_z.symm⟩, fun k hk => by rw [(h6 k hk).1, (h6 k hk).2], by rw [h7, h8]⟩
end
