def yOK (y : Nat) : Bool := wAt (yP y).2.2.2 (.initialized (yNm y).cls) && plainName (yNm y).cls && decide ((parseMethodDescriptor (yNm y).desc).map (fun d => d.parameters.length) = some (yNa y)) && decide ((yNm y).cls = oN (yO y)) && decide ((yNm y).cls ≠ "java/lang/invoke/MethodHandle") && decide ((yNm y).cls ≠ "java/lang/invoke/VarHandle") && (match yKd y with
  | 0 => wAt (yP y).2.1 (.static (yNm y))
  | 1 => wAt (yP y).2.1 (.instanceMethod (yNm y)) && wAt (yP y).2.2.1 (.selects (yNm y).cls (yNm y) (yNm y)) && Nat.blt (yO y) 13
  | 2 => wAt (yP y).2.1 (.instanceMethod (yNm y)) && decide ((yNm y).name = "<init>") && decide (yRt y = none)
  | _ => false)
theorem yOK_0 : (List.range' 0 20).all yOK = true := by decide +kernel
theorem yOK_1 : (List.range' 20 20).all yOK = true := by decide +kernel
theorem yOK_2 : (List.range' 40 20).all yOK = true := by decide +kernel
theorem yOK_3 : (List.range' 60 20).all yOK = true := by decide +kernel
theorem yOK_4 : (List.range' 80 20).all yOK = true := by decide +kernel
theorem yOK_5 : (List.range' 100 20).all yOK = true := by decide +kernel
theorem yOK_6 : (List.range' 120 20).all yOK = true := by decide +kernel
theorem yOK_7 : (List.range' 140 20).all yOK = true := by decide +kernel
theorem yOK_8 : (List.range' 160 20).all yOK = true := by decide +kernel
theorem yOK_9 : (List.range' 180 20).all yOK = true := by decide +kernel
theorem yOK_10 : (List.range' 200 20).all yOK = true := by decide +kernel
theorem yOK_11 : (List.range' 220 20).all yOK = true := by decide +kernel
theorem yOK_12 : (List.range' 240 20).all yOK = true := by decide +kernel
theorem yOK_13 : (List.range' 260 20).all yOK = true := by decide +kernel
theorem yOK_14 : (List.range' 280 20).all yOK = true := by decide +kernel
theorem yOK_15 : (List.range' 300 2).all yOK = true := by decide +kernel
