/-! What the tables say is so: decided by the kernel, place by place. -/
def kFd (ci k : Nat) : String × String × Bool × Nat × Nat := (kF ci).getD k ("", "", false, 9, 0)
def kT (ci : Nat) : u_T := fun k => (kN ci, (kFd ci k).1, (kFd ci k).2.1, (kFd ci k).2.2.1)
def kY (ci : Nat) : Nat → FieldType := fun k => (parseFieldDescriptor (kFd ci k).2.1).getD .int
def kt (ci : Nat) : List Nat := (kF ci).map (fun q => q.2.2.2.1)
def classes : List vw_C := (List.range 13).map fun ci => (kN ci, kT ci, (kF ci).length)
def tOK (t : Nat) (ty : FieldType) : Bool := match ty with
  | .int => Nat.beq t 0
  | .boolean => Nat.beq t 1
  | .long => Nat.beq t 2
  | .object _ => Nat.beq t 3
  | .array _ => Nat.beq t 3
  | _ => false
def wAt (i : Nat) (w : Cond) : Bool := decide (lw_tbl[i]? = some w)
theorem wAt_in {i : Nat} {w : Cond} (h : wAt i w = true) : w ∈ lw_tbl := List.mem_of_getElem? (of_decide_eq_true h)
def kInst : List Nat := [145, 153, 164, 234, 258, 306, 318, 386, 442, 473, 505, 519, 1344]
def kInit : List Nat := [123, 124, 125, 127, 128, 129, 130, 131, 132, 133, 134, 135, 136]
def kOK (ci : Nat) : Bool := (List.range (kF ci).length).all (fun k => wAt (kFd ci k).2.2.2.2 (u_lay (kN ci) (kT ci) k) && (parseFieldDescriptor (kFd ci k).2.1).isSome && tOK (kFd ci k).2.2.2.1 (kY ci k)) && wAt (kInst.getD ci 0) (.instantiable (kN ci) (kF ci).length) && wAt (kInit.getD ci 0) (.initialized (kN ci))

def yCd : List Nat → Prop
  | [] => True
  | y :: r => lw_tbl[(yP y).1]? = some (.code (yNm y) (yBy y) (yML y) (yRt y)) ∧ yCd r
theorem yCd_in : ∀ (l : List Nat), yCd l → ∀ y ∈ l, Cond.code (yNm y) (yBy y) (yML y) (yRt y) ∈ lw_tbl
  | [], _, _, h => absurd h List.not_mem_nil
  | a :: r, h, y, hy => (List.mem_cons.mp hy).elim (fun e => e ▸ List.mem_of_getElem? h.1) (fun q => yCd_in r h.2 y q)
set_option maxRecDepth 100000 in
theorem yCd_0 : yCd [0, 1, 2, 3, 4, 5, 6, 7, 8, 9, 10, 11, 12, 13, 14, 15, 16, 17, 18, 19, 20, 21, 22, 23, 24, 25, 26, 27, 28, 29, 30, 31, 32, 33, 34, 35, 36, 37, 38, 39] := ⟨rfl, rfl, rfl, rfl, rfl, rfl, rfl, rfl, rfl, rfl, rfl, rfl, rfl, rfl, rfl, rfl, rfl, rfl, rfl, rfl, rfl, rfl, rfl, rfl, rfl, rfl, rfl, rfl, rfl, rfl, rfl, rfl, rfl, rfl, rfl, rfl, rfl, rfl, rfl, rfl, trivial⟩
set_option maxRecDepth 100000 in
theorem yCd_1 : yCd [40, 41, 42, 43, 44, 45, 46, 47, 48, 49, 50, 51, 52, 53, 54, 55, 56, 57, 58, 59, 60, 61, 62, 63, 64, 65, 66, 67, 68, 69, 70, 71, 72, 73, 74, 75, 76, 77, 78, 79] := ⟨rfl, rfl, rfl, rfl, rfl, rfl, rfl, rfl, rfl, rfl, rfl, rfl, rfl, rfl, rfl, rfl, rfl, rfl, rfl, rfl, rfl, rfl, rfl, rfl, rfl, rfl, rfl, rfl, rfl, rfl, rfl, rfl, rfl, rfl, rfl, rfl, rfl, rfl, rfl, rfl, trivial⟩
set_option maxRecDepth 100000 in
theorem yCd_2 : yCd [80, 81, 82, 83, 84, 85, 86, 87, 88, 89, 90, 91, 92, 93, 94, 95, 96, 97, 98, 99, 100, 101, 102, 103, 104, 105, 106, 107, 108, 109, 110, 111, 112, 113, 114, 115, 116, 117, 118, 119] := ⟨rfl, rfl, rfl, rfl, rfl, rfl, rfl, rfl, rfl, rfl, rfl, rfl, rfl, rfl, rfl, rfl, rfl, rfl, rfl, rfl, rfl, rfl, rfl, rfl, rfl, rfl, rfl, rfl, rfl, rfl, rfl, rfl, rfl, rfl, rfl, rfl, rfl, rfl, rfl, rfl, trivial⟩
set_option maxRecDepth 100000 in
theorem yCd_3 : yCd [120, 121, 122, 123, 124, 125, 126, 127, 128, 129, 130, 131, 132, 133, 134, 135, 136, 137, 138, 139, 140, 141, 142, 143, 144, 145, 146, 147, 148, 149, 150, 151, 152, 153, 154, 155, 156, 157, 158, 159] := ⟨rfl, rfl, rfl, rfl, rfl, rfl, rfl, rfl, rfl, rfl, rfl, rfl, rfl, rfl, rfl, rfl, rfl, rfl, rfl, rfl, rfl, rfl, rfl, rfl, rfl, rfl, rfl, rfl, rfl, rfl, rfl, rfl, rfl, rfl, rfl, rfl, rfl, rfl, rfl, rfl, trivial⟩
set_option maxRecDepth 100000 in
theorem yCd_4 : yCd [160, 161, 162, 163, 164, 165, 166, 167, 168, 169, 170, 171, 172, 173, 174, 175, 176, 177, 178, 179, 180, 181, 182, 183, 184, 185, 186, 187, 188, 189, 190, 191, 192, 193, 194, 195, 196, 197, 198, 199] := ⟨rfl, rfl, rfl, rfl, rfl, rfl, rfl, rfl, rfl, rfl, rfl, rfl, rfl, rfl, rfl, rfl, rfl, rfl, rfl, rfl, rfl, rfl, rfl, rfl, rfl, rfl, rfl, rfl, rfl, rfl, rfl, rfl, rfl, rfl, rfl, rfl, rfl, rfl, rfl, rfl, trivial⟩
set_option maxRecDepth 100000 in
theorem yCd_5 : yCd [200, 201, 202, 203, 204, 205, 206, 207, 208, 209, 210, 211, 212, 213, 214, 215, 216, 217, 218, 219, 220, 221, 222, 223, 224, 225, 226, 227, 228, 229, 230, 231, 232, 233, 234, 235, 236, 237, 238, 239] := ⟨rfl, rfl, rfl, rfl, rfl, rfl, rfl, rfl, rfl, rfl, rfl, rfl, rfl, rfl, rfl, rfl, rfl, rfl, rfl, rfl, rfl, rfl, rfl, rfl, rfl, rfl, rfl, rfl, rfl, rfl, rfl, rfl, rfl, rfl, rfl, rfl, rfl, rfl, rfl, rfl, trivial⟩
set_option maxRecDepth 100000 in
theorem yCd_6 : yCd [240, 241, 242, 243, 244, 245, 246, 247, 248, 249, 250, 251, 252, 253, 254, 255, 256, 257, 258, 259, 260, 261, 262, 263, 264, 265, 266, 267, 268, 269, 270, 271, 272, 273, 274, 275, 276, 277, 278, 279] := ⟨rfl, rfl, rfl, rfl, rfl, rfl, rfl, rfl, rfl, rfl, rfl, rfl, rfl, rfl, rfl, rfl, rfl, rfl, rfl, rfl, rfl, rfl, rfl, rfl, rfl, rfl, rfl, rfl, rfl, rfl, rfl, rfl, rfl, rfl, rfl, rfl, rfl, rfl, rfl, rfl, trivial⟩
set_option maxRecDepth 100000 in
theorem yCd_7 : yCd [280, 281, 282, 283, 284, 285, 286, 287, 288, 289, 290, 291, 292, 293, 294, 295, 296, 297, 298, 299, 300, 301] := ⟨rfl, rfl, rfl, rfl, rfl, rfl, rfl, rfl, rfl, rfl, rfl, rfl, rfl, rfl, rfl, rfl, rfl, rfl, rfl, rfl, rfl, rfl, trivial⟩
