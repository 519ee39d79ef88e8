/-! ends and calls over a world held whole -/
abbrev qI (G : xG) (A : Nat → Prop) (post : Int32 → va_W → Prop) : Array Value → State → Outcome → State → Prop := va_Qi post (x_B G A) A
abbrev qV (G : xG) (A : Nat → Prop) (post : va_W → Prop) : Array Value → State → Outcome → State → Prop := va_Qv post (x_B G A) A
abbrev qR (G : xG) (A : Nat → Prop) (post : Nat → va_W → Prop) : Array Value → State → Outcome → State → Prop := va_Qr (fun (_ : va_W) => True) (fun w ra t => post ra w ∧ x_B G A w t) A
section XE
variable {p : Program} {l : Launch} {e : Env} {R : Room} {s : State} {m : MethodId} {args : Array Value} {below : List Frame} {meth : Method} {c : Code} {H : Heap} {locs : List Loc} {cells slots : Nat} {Q : State → Prop}
variable {cc : ByteArray} {pc : Nat} {ls : Array Slot} {rest st0 : List Value} {G : xG} {A : Nat → Prop} {ws : va_W} {H0 : Heap} {mc ms : Nat} {a : Array Value}
theorem x_iret {post : Int32 → va_W → Prop} {v : Int32} (hx : p.tables.exec = Jvm.exec) (hb : c.code = cc) (hr : meth.sig.returnType = some .int) (hlocks : meth.locks = false) (hS : va_S A s.heap H locs) (hP : va_P (xD G) CL ws H) (hD : va_D A ws) (hc : cells ≤ mc) (hs : slots ≤ ms) (hdg : decode cc pc = .ok (.ireturn, 1)) (hq : post v ws) :
    W p l e R s m args below meth c H locs cells slots (MQ below (qI G A post) args s mc ms A) (F0 m pc ls [.int v]) :=
  W.widen hc hs (W.iret (v := v) hx hb hr (fun t h9 _ => ⟨⟨v, ws, rfl, hq, by rw [h9]; exact hP, hD⟩, hS.F h9⟩) hS.2.2 hdg hlocks)
theorem x_zret {post : Int32 → va_W → Prop} {v : Int32} (hx : p.tables.exec = Jvm.exec) (hb : c.code = cc) (hr : meth.sig.returnType = some .boolean) (hlocks : meth.locks = false) (hS : va_S A s.heap H locs) (hP : va_P (xD G) CL ws H) (hD : va_D A ws) (hc : cells ≤ mc) (hs : slots ≤ ms) (hdg : decode cc pc = .ok (.ireturn, 1)) (hv : narrow .boolean (.int v) = .int v) (hq : post v ws) :
    W p l e R s m args below meth c H locs cells slots (MQ below (qI G A post) args s mc ms A) (F0 m pc ls [.int v]) :=
  W.widen hc hs (W.zret (v := v) hx hb hr hv (fun t h9 _ => ⟨⟨v, ws, rfl, hq, by rw [h9]; exact hP, hD⟩, hS.F h9⟩) hS.2.2 hdg hlocks)
theorem x_vret {post : va_W → Prop} (hx : p.tables.exec = Jvm.exec) (hb : c.code = cc) (hr : meth.sig.returnType = none) (hlocks : meth.locks = false) (hS : va_S A s.heap H locs) (hP : va_P (xD G) CL ws H) (hD : va_D A ws) (hc : cells ≤ mc) (hs : slots ≤ ms) (hdg : decode cc pc = .ok (.return_, 1)) (hq : post ws) :
    W p l e R s m args below meth c H locs cells slots (MQ below (qV G A post) args s mc ms A) (F0 m pc ls []) :=
  W.widen hc hs (W.vret hx hb hr (fun t h9 _ => ⟨⟨ws, rfl, hq, by rw [h9]; exact hP, hD⟩, hS.F h9⟩) hS.2.2 hdg hlocks)
theorem x_aret {post : Nat → va_W → Prop} {v : Nat} {rt : FieldType} (hx : p.tables.exec = Jvm.exec) (hb : c.code = cc) (hr : meth.sig.returnType = some rt) (hrt : (∃ n, rt = .object n) ∨ ∃ t, rt = .array t) (hlocks : meth.locks = false) (hS : va_S A s.heap H locs) (hP : va_P (xD G) CL ws H) (hD : va_D A ws) (hc : cells ≤ mc) (hs : slots ≤ ms) (hdg : decode cc pc = .ok (.areturn, 1)) (hq : post v ws) :
    W p l e R s m args below meth c H locs cells slots (MQ below (qR G A post) args s mc ms A) (F0 m pc ls [.ref v]) :=
  W.widen hc hs (W.aret (v := .ref v) hx hb hr hrt (Or.inr ⟨v, rfl⟩) (fun t h9 _ => ⟨⟨ws, v, rfl, trivial, hq, by rw [h9]; exact hP, hD⟩, hS.F h9⟩) hS.2.2 hdg hlocks)
theorem x_calli {post : Int32 → va_W → Prop} (hr : va_Run p l e R s m args below meth c H locs cells slots mc ms (F0 m pc ls st0) rest (qI G A post a) A) (hS : va_S A H0 H locs)
    (kk : ∀ (r : Int32) (w : va_W) (H1 : Heap) (locs1 : List Loc), post r w → va_P (xD G) CL w H1 → va_D A w → va_S A H0 H1 locs1 → W p l e R s m args below meth c H1 locs1 (cells + mc) (slots + ms) Q (F0 m (pc + 3) ls (.int r :: rest))) : W p l e R s m args below meth c H locs cells slots Q (F0 m pc ls st0) :=
  va_calli hr hS (fun _ _ h => h) (fun _ h => h) (fun r w t H1 locs1 h9 _ hq hB _ _ hS => kk r w H1 locs1 hq (by rw [← h9]; exact hB.1) hB.2 hS)
theorem x_callv {post : va_W → Prop} (hr : va_Run p l e R s m args below meth c H locs cells slots mc ms (F0 m pc ls st0) rest (qV G A post a) A) (hS : va_S A H0 H locs)
    (kk : ∀ (w : va_W) (H1 : Heap) (locs1 : List Loc), post w → va_P (xD G) CL w H1 → va_D A w → va_S A H0 H1 locs1 → W p l e R s m args below meth c H1 locs1 (cells + mc) (slots + ms) Q (F0 m (pc + 3) ls rest)) : W p l e R s m args below meth c H locs cells slots Q (F0 m pc ls st0) :=
  va_callv hr hS (fun _ _ h => h) (fun _ h => h) (fun w t H1 locs1 h9 _ hq hB _ _ hS => kk w H1 locs1 hq (by rw [← h9]; exact hB.1) hB.2 hS)
theorem x_callr {post : Nat → va_W → Prop} (hr : va_Run p l e R s m args below meth c H locs cells slots mc ms (F0 m pc ls st0) rest (qR G A post a) A) (hS : va_S A H0 H locs)
    (kk : ∀ (r : Nat) (w : va_W) (H1 : Heap) (locs1 : List Loc), post r w → va_P (xD G) CL w H1 → va_D A w → va_S A H0 H1 locs1 → W p l e R s m args below meth c H1 locs1 (cells + mc) (slots + ms) Q (F0 m (pc + 3) ls (.ref r :: rest))) : W p l e R s m args below meth c H locs cells slots Q (F0 m pc ls st0) :=
  va_callr hr hS (fun _ _ h => h) (fun _ h => h) (fun w r t H1 locs1 h9 _ _ hB _ _ hS => kk r w H1 locs1 hB.1 (by rw [← h9]; exact hB.2.1) hB.2.2 hS)
end XE
