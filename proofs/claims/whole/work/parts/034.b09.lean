section ZL
variable {p : Program} {l : Launch} {e : Env} {R : Room} {s : State} {m : MethodId} {args : Array Value} {below : List Frame} {meth : Method} {c : Code} {T : State} {locs : List Loc} {cells slots : Nat}
/-- a float of the pool, by a wide place -/
theorem zn_ldcwF (X : Stand p l e R s m args below meth c T locs cells slots) (hexec : p.tables.exec = Jvm.exec) {own : String} {index : Nat} {v : UInt32} (hown : s.vm.findClass own = some m.cls)
    (hconst : (Cond.constantFloat own index v).before args s = true) {g : JFrame} (hg : g.method = m) (hdg : decode c.code g.pc = .ok (.ldc_w index, 3)) :
    ∀ target, Steps p.tables e below (T.setTop { g with pc := g.pc + 3, stack := .float v :: g.stack }) target → Steps p.tables e below (T.setTop g) target := by
  obtain ⟨k, cf, hk, hcf, hcp⟩ := Cond.constantFloat_spec hown hconst
  obtain ⟨k', hk', he⟩ := X.warmed.alike.2.2 _ _ hk
  intro target hrest
  subst hg
  jvm_step X.here [hexec, hdg, ldc_w.wp_float (s := T) (f := g) X.here.top hk' (by rw [he]; exact hcf) hcp]
  exact hrest
end ZL
theorem z_ldcwf {G : zG} {M : zM} {R : Room} {k n pc q : Nat} {zl : List (Option Value)} {st : List Value} {w : zWorld} {P : zRes → zWorld → Prop} {v : UInt32} {i : Nat} (hd : decode M.code pc = .ok (.ldc_w i, 3)) (hw : Cond.constantFloat M.y.cls i v ∈ zt) (hq : pc + 3 = q) (kk : Z G M R k n q zl (.float v :: st) w P) : Z G M R k n pc zl st w P := by
  subst hq
  intro p e s m args below meth c H locs ad ad0 n0 cls C HH hl hlo hst hn he T hT X
  obtain ⟨t, a, b⟩ := kk p e s m args below meth c H locs ad ad0 n0 cls C HH hl hlo (.cons trivial hst) hn he T hT X
  exact ⟨t, zn_ldcwF X C.1 C.2.2.2.2.2.1 (C.2.2.2.2.2.2.2.1 _ hw) (g := F0 m pc cls (st.map (zc ad))) rfl (by rw [C.2.1]; exact hd) t a, b⟩
