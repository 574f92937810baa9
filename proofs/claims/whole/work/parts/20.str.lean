/-! length and charAt of constant texts -/
section STR
variable {p : Program} {l : Launch} {e : Env} {R : Room} {s : State} {m : MethodId} {args : Array Value} {below : List Frame} {meth : Method} {c : Code} {Q : State → Prop} {D : va_G} {cA : Nat → ClassId} {ρ : Nat → Nat} {B : Nat} {adV : Nat → Nat} {c0 s0 y : Nat} {X : mH → Prop} {en : mE} {f f' : mF} {h h' : mH} {ok : Bool}
theorem ms_str {idx : Nat} (C : mCx p R s m args meth c D cA ρ B adV c0 y) (hd : decode (yBy y) f.1 = .ok (.invokevirtual idx, 3)) (hn : en.2.1 = 3) (hk : (Nat.ble 6 en.2.2.1.1 && Nat.ble en.2.2.1.1 7 && eLn pLn (yO y) idx en.2.2.1.1 && Nat.ble 3 (yFr y) && Nat.ble 108 (yLo y)) = true) (hg : mGr R c0 s0 h h') (hs : mPr en f h = (f', h', true)) (K : Wm p l e R s m args below meth c Q D cA ρ B c0 s0 y X f' h') : Wm p l e R s m args below meth c Q D cA ρ B c0 s0 y X f h := by
  sorry
end STR
