theorem kOK_all : (List.range 13).all kOK = true := by decide +kernel
theorem kNm_all : ∀ ci, ci < 13 → ∀ a, a < (kF ci).length → ∀ b, b < (kF ci).length → a ≠ b → (kT ci a).2.1 ≠ (kT ci b).2.1 := by decide +kernel
theorem fL_ok : fL.all (fun q => wAt q.2.2.2.2 (.fieldLink (oN q.1) q.2.1 (kN q.2.2.1) (kFd q.2.2.1 q.2.2.2.1).1 (kFd q.2.2.1 q.2.2.2.1).2.1) && Nat.blt q.2.2.2.1 (kF q.2.2.1).length && Nat.blt q.2.2.1 13) = true := by decide +kernel
theorem mLn_ok : mLn.all (fun q => wAt q.2.2.2 (.methodLink (oN q.1) q.2.1 (yNm q.2.2.1)) && Nat.blt q.2.2.1 302) = true := by decide +kernel
theorem nLn_ok : nLn.all (fun q => wAt q.2.2.2 (.methodLinkNest (oN q.1) q.2.1 (yNm q.2.2.1) "OneReader") && Nat.blt q.2.2.1 302) = true := by decide +kernel
def pNm (t : Nat) : MethodName := match t with
  | 1 => Lib.objectInit
  | 2 => Lib.Math.max.name
  | 3 => Lib.Math.min.name
  | 4 => Lib.Math.abs.name
  | 5 => arraycopyName
  | 6 => ⟨"java/lang/String", "length", "()I"⟩
  | _ => ⟨"java/lang/String", "charAt", "(I)C"⟩
theorem pLn_ok : pLn.all (fun q => wAt q.2.2.2 (.methodLink (oN q.1) q.2.1 (pNm q.2.2.1))) = true := by decide +kernel
theorem cLn_ok : cLn.all (fun q => wAt q.2.2.2 (.classLink (oN q.1) q.2.1 (kN q.2.2.1)) && Nat.blt q.2.2.1 13) = true := by decide +kernel
theorem kIn_ok : kIn.all (fun q => wAt q.2.2.2 (.constant (oN q.1) q.2.1 q.2.2.1)) = true := by decide +kernel
theorem kLn_ok : kLn.all (fun q => wAt q.2.2.2 (.constantLong (oN q.1) q.2.1 q.2.2.1)) = true := by decide +kernel
theorem sLn_ok : sLn.all (fun q => wAt q.2.2.2 (.stringRef (oN q.1) q.2.1 q.2.2.1)) = true := by decide +kernel
theorem w_max : wAt 733 (.code Lib.Math.max.name Lib.Math.max.code 2 (some .int)) && wAt 732 (.static Lib.Math.max.name) = true := by decide +kernel
theorem w_min : wAt 597 (.code Lib.Math.min.name Lib.Math.min.code 2 (some .int)) && wAt 596 (.static Lib.Math.min.name) = true := by decide +kernel
theorem w_abs : wAt 1171 (.code Lib.Math.abs.name Lib.Math.abs.code 1 (some .int)) && wAt 1170 (.static Lib.Math.abs.name) = true := by decide +kernel
theorem w_math : wAt 137 (.initialized "java/lang/Math") = true := by decide +kernel
theorem w_acp : wAt 777 (.native arraycopyName) && wAt 776 (.static arraycopyName) && wAt 142 (.initialized "java/lang/System") = true := by decide +kernel
theorem w_obj : wAt 150 (.instanceMethod Lib.objectInit) && wAt 151 (.code Lib.objectInit ⟨#[0xb1]⟩ 1 none) = true := by decide +kernel
theorem w_arr : wAt 233 (.arrayClass .int) && wAt 345 (.arrayClass .boolean) && wAt 789 (.arrayClass .byte) = true := by decide +kernel
theorem w_over : wAt 159 (.arrayOver (.object (kN 2))) && wAt 161 (.arrayOver (.object (kN 3))) && wAt 163 (.arrayOver (.object (kN 4))) && wAt 304 (.arrayOver (.object (kN 1))) = true := by decide +kernel
