section VI
variable {p : Program} {l : Launch} {e : Env} {R : Room} {s : State} {m : MethodId} {args : Array Value} {below : List Frame} {meth : Method} {c : Code} {Q : State → Prop} {G : vv_G} {cc : ByteArray} {nL : Nat} {ret : Option FieldType} {own : String} {v : vv_V} {kc ks pc : Nat} {lv : List (Nat × Value)} {st : List Value}
theorem v_view (k : ∀ v1 : vv_V, v1 = v → vV p l e R s m args below meth c Q G nL v1 kc ks pc lv st) : vV p l e R s m args below meth c Q G nL v kc ks pc lv st := k v rfl
theorem v_cs {kc' ks' : Nat} (h1 : kc = kc') (h2 : ks = ks') (k : vV p l e R s m args below meth c Q G nL v kc' ks' pc lv st) : vV p l e R s m args below meth c Q G nL v kc ks pc lv st := by subst h1; subst h2; exact k
theorem v_idiv (C : vC p s m args meth c cc nL ret own G) {x y : Int32} (hd : decode cc pc = .ok (.idiv, 1)) (hne : ¬ y = 0) (k : vV p l e R s m args below meth c Q G nL v kc ks (pc + 1) lv (.int (x / y) :: st)) : vV p l e R s m args below meth c Q G nL v kc ks pc lv (.int y :: .int x :: st) := fun H locs ls hP hS hl => lv_idiv C.1 C.2.1 hd hne (k H locs ls hP hS hl)
theorem v_irem (C : vC p s m args meth c cc nL ret own G) {x y : Int32} (hd : decode cc pc = .ok (.irem, 1)) (hne : ¬ y = 0) (k : vV p l e R s m args below meth c Q G nL v kc ks (pc + 1) lv (.int (x - x / y * y) :: st)) : vV p l e R s m args below meth c Q G nL v kc ks pc lv (.int y :: .int x :: st) := fun H locs ls hP hS hl => lv_irem C.1 C.2.1 hd hne (k H locs ls hP hS hl)
theorem v_lrem (C : vC p s m args meth c cc nL ret own G) {x y : Int64} (hd : decode cc pc = .ok (.lrem, 1)) (hne : ¬ y = 0) (k : vV p l e R s m args below meth c Q G nL v kc ks (pc + 1) lv (.long (x - x / y * y) :: st)) : vV p l e R s m args below meth c Q G nL v kc ks pc lv (.long y :: .long x :: st) := fun H locs ls hP hS hl => lv_lrem C.1 C.2.1 hd hne (k H locs ls hP hS hl)
theorem v_ishr (C : vC p s m args meth c cc nL ret own G) {x y : Int32} (hd : decode cc pc = .ok (.ishr, 1)) (k : vV p l e R s m args below meth c Q G nL v kc ks (pc + 1) lv (.int (x >>> (y &&& 31)) :: st)) : vV p l e R s m args below meth c Q G nL v kc ks pc lv (.int y :: .int x :: st) := fun H locs ls hP hS hl => lv_ishr C.1 C.2.1 hd (k H locs ls hP hS hl)
theorem v_lshl (C : vC p s m args meth c cc nL ret own G) {x z : Int64} {y : Int32} (hd : decode cc pc = .ok (.lshl, 1)) (hz : x <<< (y.toInt64 &&& 63) = z) (k : vV p l e R s m args below meth c Q G nL v kc ks (pc + 1) lv (.long z :: st)) : vV p l e R s m args below meth c Q G nL v kc ks pc lv (.int y :: .long x :: st) := fun H locs ls hP hS hl => lv_lshl C.1 C.2.1 hd hz (k H locs ls hP hS hl)
theorem v_acmp_eq (C : vC p s m args meth c cc nL ret own G) {rx ry : Option Nat} {off : Int} (tgt : Nat) (hd : decode cc pc = .ok (.if_acmp .eq off, 3)) (ht : (pc : Int) + off = (tgt : Int)) (kt : rx = ry → vV p l e R s m args below meth c Q G nL v kc ks tgt lv st) (kf : ¬ rx = ry → vV p l e R s m args below meth c Q G nL v kc ks (pc + 3) lv st) : vV p l e R s m args below meth c Q G nL v kc ks pc lv (va_rf ry :: va_rf rx :: st) := fun H locs ls hP hS hl => lv_acmp_eq C.1 C.2.1 hd ht (fun z => kt z H locs ls hP hS hl) (fun z => kf z H locs ls hP hS hl)
theorem v_acmp_ne (C : vC p s m args meth c cc nL ret own G) {rx ry : Option Nat} {off : Int} (tgt : Nat) (hd : decode cc pc = .ok (.if_acmp .ne off, 3)) (ht : (pc : Int) + off = (tgt : Int)) (kt : ¬ rx = ry → vV p l e R s m args below meth c Q G nL v kc ks tgt lv st) (kf : rx = ry → vV p l e R s m args below meth c Q G nL v kc ks (pc + 3) lv st) : vV p l e R s m args below meth c Q G nL v kc ks pc lv (va_rf ry :: va_rf rx :: st) := fun H locs ls hP hS hl => lv_acmp_ne C.1 C.2.1 hd ht (fun z => kt z H locs ls hP hS hl) (fun z => kf z H locs ls hP hS hl)
theorem v_cast {Cn nm : String} {T : u_T} {N ci index b : Nat} {fs : List Value} (C : vC p s m args meth c cc nL ret own G) (hlink : Cond.classLink own index nm ∈ vv_wds) (hca : Cond.castable Cn nm ∈ vv_wds) (he : v ci b = some (.inr (ci, fs))) (hc : vwCl[ci]? = some (Cn, T, N)) (hd : decode cc pc = .ok (.checkcast index, 3))
    (k : vV p l e R s m args below meth c Q G nL v kc ks (pc + 3) lv (.ref b :: st)) : vV p l e R s m args below meth c Q G nL v kc ks pc lv (.ref b :: st) := fun H locs ls hP hS hl => va_castY C.1 C.2.1 C.2.2.2.1 (C.w _ hlink) (va_Nw.of rfl (C.w _ hca)) (vv_recv C.2.2.2.2.1 hP he hc) hd (k H locs ls hP hS hl)
theorem v_gets {index : Nat} (C : vC p s m args meth c cc nL ret own G) (hlink : Cond.fieldLink own index "java/util/ArrayList" "DEFAULTCAPACITY_EMPTY_ELEMENTDATA" "[Ljava/lang/Object;" ∈ vv_wds) (hd : decode cc pc = .ok (.getstatic index, 3))
    (k : vV p l e R s m args below meth c Q G nL v kc ks (pc + 3) lv (.ref G.2.2.1 :: st)) : vV p l e R s m args below meth c Q G nL v kc ks pc lv st := fun H locs ls hP hS hl => va_gets C.1 C.2.1 C.2.2.2.2.1.2.2.1.1 hS C.2.2.2.1 (C.w _ hlink) (fun _ h => h) hd (k H locs ls hP hS hl)
theorem v_ldcM {index : Nat} (C : vC p s m args meth c cc nL ret own G) (hlink : Cond.classLink own index "[Ljava/lang/Object;" ∈ vv_wds) (hd : decode cc pc = .ok (.ldc index, 2))
    (k : vV p l e R s m args below meth c Q G nL v kc ks (pc + 2) lv (.ref G.2.2.2.1 :: st)) : vV p l e R s m args below meth c Q G nL v kc ks pc lv st := fun H locs ls hP hS hl => va_ldcM C.1 C.2.1 C.2.2.2.1 (C.w _ hlink) C.2.2.2.2.1.2.2.2.1.1 hd (k H locs ls hP hS hl)
theorem vv_recvA {H : Heap} {K a n : Nat} {fq : Nat → Option Nat} (hE : vv_E G s) (hP : vv_P G v H) (he : v K a = some (.inl (G.2.2.2.2 3, n, .inr (.inr (.inr (.inr fq)))))) (h99 : K ≠ 99) : ∃ cell : Cell, H[a]? = some cell ∧ cell.vm.isStatics = false ∧ s.vm.findClass "[Ljava/lang/Object;" = some cell.cls :=
  ⟨_, (hP.1 _ _ _ he).1 h99, rfl, va_nmO (hE.1.2 3 _ rfl).2 rfl⟩
theorem v_getC {index K a n : Nat} {fq : Nat → Option Nat} (C : vC p s m args meth c cc nL ret own G) (he : v K a = some (.inl (G.2.2.2.2 3, n, .inr (.inr (.inr (.inr fq)))))) (hlink : Cond.methodLink own index ⟨"java/lang/Object", "getClass", "()Ljava/lang/Class;"⟩ ∈ vv_wds) (hdecl : Cond.declares ⟨"java/lang/Object", "getClass", "()Ljava/lang/Class;"⟩ ∈ vv_wds) (hsel : Cond.selects "[Ljava/lang/Object;" ⟨"java/lang/Object", "getClass", "()Ljava/lang/Class;"⟩ ⟨"java/lang/Object", "getClass", "()Ljava/lang/Class;"⟩ ∈ vv_wds) (hinst : Cond.instanceMethod ⟨"java/lang/Object", "getClass", "()Ljava/lang/Class;"⟩ ∈ vv_wds) (hnat : Cond.native ⟨"java/lang/Object", "getClass", "()Ljava/lang/Class;"⟩ ∈ vv_wds) (hfr : 1 ≤ R.frames) (hlo : (st.map fun v => v.category).sum + 14 ≤ R.locals) (hd : decode cc pc = .ok (.invokevirtual index, 3))
    (k : vV p l e R s m args below meth c Q G nL v kc ks (pc + 3) lv (.ref G.2.2.2.1 :: st)) (h99 : K ≠ 99 := by decide) : vV p l e R s m args below meth c Q G nL v kc ks pc lv (.ref a :: st) := fun H locs ls hP hS hl => va_getC C.1 C.2.1 (C.2.2.1.trans hl.1.symm) C.2.2.2.1 (C.w _ hlink) (C.w _ hdecl) (C.w _ hsel) (C.w _ hinst) (C.w _ hnat) C.2.2.2.2.1.2.2.2.1.1 (vv_recvA C.2.2.2.2.1 hP he h99) hfr hlo hd (k H locs ls hP hS hl)
/-- System.arraycopy between two Object[] whose elements are objects of class ci -/
theorem v_copyq {index a0 a1 n0 n1 : Nat} {f g : Nat → Option Nat} {sp dp n : Int32} {Cn : String} {T : u_T} {N ci : Nat} (C : vC p s m args meth c cc nL ret own G) (he0 : v 53 a0 = some (.inl (G.2.2.2.2 3, n0, .inr (.inr (.inr (.inr f)))))) (he1 : v 53 a1 = some (.inl (G.2.2.2.2 3, n1, .inr (.inr (.inr (.inr g)))))) (hlink : Cond.methodLink own index arraycopyName ∈ vv_wds) (hnat : Cond.native arraycopyName ∈ vv_wds) (hstat : Cond.static arraycopyName ∈ vv_wds) (hini : Cond.initialized "java/lang/System" ∈ vv_wds)
    (h1 : ¬ sp < 0) (h2 : ¬ dp < 0) (h3 : ¬ n < 0) (h4 : sp.toNatClampNeg + n.toNatClampNeg ≤ n0) (h5 : dp.toNatClampNeg + n.toNatClampNeg ≤ n1) (hel : ∀ i : Nat, i < n.toNatClampNeg → ∀ y : Nat, f (sp.toNatClampNeg + i) = some y → ∃ fs, v ci y = some (.inr (ci, fs))) (hc : vwCl[ci]? = some (Cn, T, N)) (hca : Cond.castable Cn "java/lang/Object" ∈ vv_wds) (hfr : 1 ≤ R.frames) (hlo : (st.map fun v => v.category).sum + (nativeFrameWords "java/lang/System" "arraycopy" 5 + 11) ≤ R.locals) (hd : decode cc pc = .ok (.invokestatic index, 3))
    (k : vV p l e R s m args below meth c Q G nL (vv_up v 53 a1 (.inl (G.2.2.2.2 3, n1, .inr (.inr (.inr (.inr (va_cpy f g sp.toNatClampNeg dp.toNatClampNeg n.toNatClampNeg))))))) kc ks (pc + 3) lv st) : vV p l e R s m args below meth c Q G nL v kc ks pc lv (.int n :: .int dp :: .ref a1 :: .int sp :: .ref a0 :: st) := by
  intro H locs ls hP hS hl
  obtain ⟨ws, hL⟩ := vv_ls hP
  obtain ⟨q0, hq0⟩ := hL.1 53 a0 _ (by decide) he0
  obtain ⟨q1, hq1⟩ := hL.1 53 a1 _ (by decide) he1
  exact va_copyq C.1 C.2.1 (C.2.2.1.trans hl.1.symm) C.2.2.2.1 (C.w _ hlink) (C.w _ hnat) (C.w _ hstat) (C.w _ hini) C.2.2.2.2.1.1 (hL.P hP) (hL.D hP) hS q0 q1 3 3 hq0 hq1 rfl rfl h1 h2 h3 h4 h5
    (C := Cn) (fun i hi y hy => by obtain ⟨fs, h⟩ := hel i hi y hy; exact vv_recv C.2.2.2.2.1 hP h hc) (fun comp c0 g1 g2 => vb_asgC (va_Nw.of rfl (C.w _ hca)) comp c0 g1 g2) hfr hlo hd
    (fun H1 locs1 hP1 _ hS1 => k H1 locs1 ls (vv_set hP hL (by decide) he1 hq1 C.2.2.2.2.1.2.2.2.2 hS hS1 hP1) hS1 hl)
theorem v_tableOut (C : vC p s m args meth c cc nL ret own G) {dflt lo hi : Int} {offs : Array Int} {len : Nat} {x : Int32} (tgt : Nat) (hd : decode cc pc = .ok (.tableswitch dflt lo hi offs, len)) (h : x.toInt < lo ∨ hi < x.toInt) (ht : (pc : Int) + dflt = (tgt : Int)) (k : vV p l e R s m args below meth c Q G nL v kc ks tgt lv st) : vV p l e R s m args below meth c Q G nL v kc ks pc lv (.int x :: st) := fun H locs ls hP hS hl => lv_tableOut C.1 C.2.1 hd h ht (k H locs ls hP hS hl)
theorem v_tableIn (C : vC p s m args meth c cc nL ret own G) {dflt lo hi : Int} {offs : Array Int} {len : Nat} {x : Int32} {off : Int} (tgt : Nat) (hd : decode cc pc = .ok (.tableswitch dflt lo hi offs, len)) (h1 : ¬ x.toInt < lo) (h2 : ¬ hi < x.toInt) (ho : offs[(x.toInt - lo).toNat]? = some off) (ht : (pc : Int) + off = (tgt : Int)) (k : vV p l e R s m args below meth c Q G nL v kc ks tgt lv st) : vV p l e R s m args below meth c Q G nL v kc ks pc lv (.int x :: st) := fun H locs ls hP hS hl => lv_tableIn C.1 C.2.1 hd h1 h2 ho ht (k H locs ls hP hS hl)
end VI
theorem vv_metF {l : Launch} {y : MethodName} {cc : ByteArray} {maxL : Nat} {ret : Option FieldType} {f lo : Nat} {G : vv_G} {v : vv_V} {As : List Value} {post : Option Value → vv_V → Prop} {mc ms : Nat} {own nm : String} (hy : plainFor y = true) (hown : y.cls = own) (hnm : y.name = nm) (hlen : (lg_sl As).length ≤ maxL)
    (body : ∀ (p : Program) (e : Env) (s : State) (m : MethodId) (below : List Frame) (meth : Method) (c : Code), vC p s m As.toArray meth c cc maxL ret own G → meth.name = nm →
      vV p l e { frames := f, cells := mc, slots := ms, locals := lo } s m As.toArray below meth c (MQ below (vv_Q G post) As.toArray s mc ms (fun q => G.2.1 ≤ q)) G maxL v 0 0 0 (lv_args 0 As) []) : Mv l y cc maxL ret f lo G v As post mc ms := by
  refine va_MetF (cc := cc) (maxL := maxL) (ret := ret) hy rfl ?_
  intro p e s m args below meth c s₁ B hml hv
  obtain ⟨rfl, hP, hE⟩ := hv
  rw [lg_entry_eq]
  exact body p e s m below meth c ⟨B.exec, B.bytes, hml, by rw [← hown]; exact findClass_of_methodNamed B.named, hE, B.returns, B.notSynchronized⟩ (by rw [← hnm]; exact (name_of_methodNamed B.named B.method).1) s.heap [] _ hP va_S.rf (lv_entry As hlen)
/-- a weaker end -/
theorem Mv.weak {l : Launch} {y : MethodName} {cc : ByteArray} {maxL : Nat} {ret : Option FieldType} {f lo : Nat} {G : vv_G} {v : vv_V} {As : List Value} {post post' : Option Value → vv_V → Prop} {mc ms : Nat} (h : Mv l y cc maxL ret f lo G v As post mc ms) (hp : ∀ r v', post r v' → post' r v') : Mv l y cc maxL ret f lo G v As post' mc ms := by
  intro p e h1 h2 h3 s m args below a1 a2 a3 a4
  obtain ⟨k, o, b1, b2, b3, ⟨⟨⟨r, v', c1, c2, c3⟩, c4⟩, c5⟩⟩ := h p e h1 h2 h3 s m args below a1 a2 a3 a4
  exact ⟨k, o, b1, b2, b3, ⟨⟨⟨r, v', c1, hp r v' c2, c3⟩, c4⟩, c5⟩⟩
theorem mn_C_init : y_C_init.cls ≠ "java/lang/invoke/MethodHandle" ∧ y_C_init.cls ≠ "java/lang/invoke/VarHandle" ∧ (parseMethodDescriptor y_C_init.desc).map (fun d => d.parameters.length) = some 0 := by decide +kernel
theorem pf_C_init : plainFor y_C_init = true := by decide +kernel
theorem mn_Oj_init : y_Oj_init.cls ≠ "java/lang/invoke/MethodHandle" ∧ y_Oj_init.cls ≠ "java/lang/invoke/VarHandle" ∧ (parseMethodDescriptor y_Oj_init.desc).map (fun d => d.parameters.length) = some 0 := by decide +kernel
theorem mn_AL_init : y_AL_init.cls ≠ "java/lang/invoke/MethodHandle" ∧ y_AL_init.cls ≠ "java/lang/invoke/VarHandle" ∧ (parseMethodDescriptor y_AL_init.desc).map (fun d => d.parameters.length) = some 0 := by decide +kernel
theorem pf_AL_init : plainFor y_AL_init = true := by decide +kernel
theorem mn_AbL_init : y_AbL_init.cls ≠ "java/lang/invoke/MethodHandle" ∧ y_AbL_init.cls ≠ "java/lang/invoke/VarHandle" ∧ (parseMethodDescriptor y_AbL_init.desc).map (fun d => d.parameters.length) = some 0 := by decide +kernel
theorem pf_AbL_init : plainFor y_AbL_init = true := by decide +kernel
theorem mn_AbC_init : y_AbC_init.cls ≠ "java/lang/invoke/MethodHandle" ∧ y_AbC_init.cls ≠ "java/lang/invoke/VarHandle" ∧ (parseMethodDescriptor y_AbC_init.desc).map (fun d => d.parameters.length) = some 0 := by decide +kernel
theorem pf_AbC_init : plainFor y_AbC_init = true := by decide +kernel
theorem mn_C_customer : y_C_customer.cls ≠ "java/lang/invoke/MethodHandle" ∧ y_C_customer.cls ≠ "java/lang/invoke/VarHandle" ∧ (parseMethodDescriptor y_C_customer.desc).map (fun d => d.parameters.length) = some 2 := by decide +kernel
theorem pf_C_customer : plainFor y_C_customer = true := by decide +kernel
theorem mn_C_isWithin : y_C_isWithin.cls ≠ "java/lang/invoke/MethodHandle" ∧ y_C_isWithin.cls ≠ "java/lang/invoke/VarHandle" ∧ (parseMethodDescriptor y_C_isWithin.desc).map (fun d => d.parameters.length) = some 3 := by decide +kernel
theorem pf_C_isWithin : plainFor y_C_isWithin = true := by decide +kernel
theorem mn_AL_size : y_AL_size.cls ≠ "java/lang/invoke/MethodHandle" ∧ y_AL_size.cls ≠ "java/lang/invoke/VarHandle" ∧ (parseMethodDescriptor y_AL_size.desc).map (fun d => d.parameters.length) = some 0 := by decide +kernel
theorem pf_AL_size : plainFor y_AL_size = true := by decide +kernel
theorem mn_K_init : y_K_init.cls ≠ "java/lang/invoke/MethodHandle" ∧ y_K_init.cls ≠ "java/lang/invoke/VarHandle" ∧ (parseMethodDescriptor y_K_init.desc).map (fun d => d.parameters.length) = some 3 := by decide +kernel
theorem pf_K_init : plainFor y_K_init = true := by decide +kernel
theorem mn_AL_add : y_AL_add.cls ≠ "java/lang/invoke/MethodHandle" ∧ y_AL_add.cls ≠ "java/lang/invoke/VarHandle" ∧ (parseMethodDescriptor y_AL_add.desc).map (fun d => d.parameters.length) = some 1 := by decide +kernel
theorem pf_AL_add : plainFor y_AL_add = true := by decide +kernel
theorem mn_AL_add_LObjectALObjectIV : y_AL_add_LObjectALObjectIV.cls ≠ "java/lang/invoke/MethodHandle" ∧ y_AL_add_LObjectALObjectIV.cls ≠ "java/lang/invoke/VarHandle" ∧ (parseMethodDescriptor y_AL_add_LObjectALObjectIV.desc).map (fun d => d.parameters.length) = some 3 := by decide +kernel
theorem pf_AL_add_LObjectALObjectIV : plainFor y_AL_add_LObjectALObjectIV = true := by decide +kernel
theorem mn_AL_grow : y_AL_grow.cls ≠ "java/lang/invoke/MethodHandle" ∧ y_AL_grow.cls ≠ "java/lang/invoke/VarHandle" ∧ (parseMethodDescriptor y_AL_grow.desc).map (fun d => d.parameters.length) = some 0 := by decide +kernel
theorem pf_AL_grow : plainFor y_AL_grow = true := by decide +kernel
theorem mn_AL_grow_IALObject : y_AL_grow_IALObject.cls ≠ "java/lang/invoke/MethodHandle" ∧ y_AL_grow_IALObject.cls ≠ "java/lang/invoke/VarHandle" ∧ (parseMethodDescriptor y_AL_grow_IALObject.desc).map (fun d => d.parameters.length) = some 1 := by decide +kernel
theorem pf_AL_grow_IALObject : plainFor y_AL_grow_IALObject = true := by decide +kernel
theorem mn_AS_newLength : y_AS_newLength.cls ≠ "java/lang/invoke/MethodHandle" ∧ y_AS_newLength.cls ≠ "java/lang/invoke/VarHandle" ∧ (parseMethodDescriptor y_AS_newLength.desc).map (fun d => d.parameters.length) = some 3 := by decide +kernel
theorem pf_AS_newLength : plainFor y_AS_newLength = true := by decide +kernel
theorem mn_Ma_max : y_Ma_max.cls ≠ "java/lang/invoke/MethodHandle" ∧ y_Ma_max.cls ≠ "java/lang/invoke/VarHandle" ∧ (parseMethodDescriptor y_Ma_max.desc).map (fun d => d.parameters.length) = some 2 := by decide +kernel
theorem pf_Ma_max : plainFor y_Ma_max = true := by decide +kernel
theorem mn_AS_hugeLength : y_AS_hugeLength.cls ≠ "java/lang/invoke/MethodHandle" ∧ y_AS_hugeLength.cls ≠ "java/lang/invoke/VarHandle" ∧ (parseMethodDescriptor y_AS_hugeLength.desc).map (fun d => d.parameters.length) = some 2 := by decide +kernel
theorem pf_AS_hugeLength : plainFor y_AS_hugeLength = true := by decide +kernel
theorem mn_Ar_copyOf : y_Ar_copyOf.cls ≠ "java/lang/invoke/MethodHandle" ∧ y_Ar_copyOf.cls ≠ "java/lang/invoke/VarHandle" ∧ (parseMethodDescriptor y_Ar_copyOf.desc).map (fun d => d.parameters.length) = some 2 := by decide +kernel
theorem pf_Ar_copyOf : plainFor y_Ar_copyOf = true := by decide +kernel
theorem mn_Ar_copyOf_ALObjectILClassALObject : y_Ar_copyOf_ALObjectILClassALObject.cls ≠ "java/lang/invoke/MethodHandle" ∧ y_Ar_copyOf_ALObjectILClassALObject.cls ≠ "java/lang/invoke/VarHandle" ∧ (parseMethodDescriptor y_Ar_copyOf_ALObjectILClassALObject.desc).map (fun d => d.parameters.length) = some 3 := by decide +kernel
theorem pf_Ar_copyOf_ALObjectILClassALObject : plainFor y_Ar_copyOf_ALObjectILClassALObject = true := by decide +kernel
theorem mn_Ma_min : y_Ma_min.cls ≠ "java/lang/invoke/MethodHandle" ∧ y_Ma_min.cls ≠ "java/lang/invoke/VarHandle" ∧ (parseMethodDescriptor y_Ma_min.desc).map (fun d => d.parameters.length) = some 2 := by decide +kernel
theorem pf_Ma_min : plainFor y_Ma_min = true := by decide +kernel
theorem mn_C_wish : y_C_wish.cls ≠ "java/lang/invoke/MethodHandle" ∧ y_C_wish.cls ≠ "java/lang/invoke/VarHandle" ∧ (parseMethodDescriptor y_C_wish.desc).map (fun d => d.parameters.length) = some 4 := by decide +kernel
theorem pf_C_wish : plainFor y_C_wish = true := by decide +kernel
theorem mn_C_findCustomer : y_C_findCustomer.cls ≠ "java/lang/invoke/MethodHandle" ∧ y_C_findCustomer.cls ≠ "java/lang/invoke/VarHandle" ∧ (parseMethodDescriptor y_C_findCustomer.desc).map (fun d => d.parameters.length) = some 1 := by decide +kernel
theorem pf_C_findCustomer : plainFor y_C_findCustomer = true := by decide +kernel
theorem mn_AL_get : y_AL_get.cls ≠ "java/lang/invoke/MethodHandle" ∧ y_AL_get.cls ≠ "java/lang/invoke/VarHandle" ∧ (parseMethodDescriptor y_AL_get.desc).map (fun d => d.parameters.length) = some 1 := by decide +kernel
theorem pf_AL_get : plainFor y_AL_get = true := by decide +kernel
theorem mn_Ob_checkIndex : y_Ob_checkIndex.cls ≠ "java/lang/invoke/MethodHandle" ∧ y_Ob_checkIndex.cls ≠ "java/lang/invoke/VarHandle" ∧ (parseMethodDescriptor y_Ob_checkIndex.desc).map (fun d => d.parameters.length) = some 2 := by decide +kernel
theorem pf_Ob_checkIndex : plainFor y_Ob_checkIndex = true := by decide +kernel
theorem mn_Pr_checkIndex : y_Pr_checkIndex.cls ≠ "java/lang/invoke/MethodHandle" ∧ y_Pr_checkIndex.cls ≠ "java/lang/invoke/VarHandle" ∧ (parseMethodDescriptor y_Pr_checkIndex.desc).map (fun d => d.parameters.length) = some 3 := by decide +kernel
theorem pf_Pr_checkIndex : plainFor y_Pr_checkIndex = true := by decide +kernel
theorem mn_AL_elementData : y_AL_elementData.cls ≠ "java/lang/invoke/MethodHandle" ∧ y_AL_elementData.cls ≠ "java/lang/invoke/VarHandle" ∧ (parseMethodDescriptor y_AL_elementData.desc).map (fun d => d.parameters.length) = some 1 := by decide +kernel
theorem pf_AL_elementData : plainFor y_AL_elementData = true := by decide +kernel
theorem mn_C_isKind : y_C_isKind.cls ≠ "java/lang/invoke/MethodHandle" ∧ y_C_isKind.cls ≠ "java/lang/invoke/VarHandle" ∧ (parseMethodDescriptor y_C_isKind.desc).map (fun d => d.parameters.length) = some 1 := by decide +kernel
theorem pf_C_isKind : plainFor y_C_isKind = true := by decide +kernel
theorem mn_C_isChannel : y_C_isChannel.cls ≠ "java/lang/invoke/MethodHandle" ∧ y_C_isChannel.cls ≠ "java/lang/invoke/VarHandle" ∧ (parseMethodDescriptor y_C_isChannel.desc).map (fun d => d.parameters.length) = some 1 := by decide +kernel
theorem pf_C_isChannel : plainFor y_C_isChannel = true := by decide +kernel
theorem mn_K_setOrder : y_K_setOrder.cls ≠ "java/lang/invoke/MethodHandle" ∧ y_K_setOrder.cls ≠ "java/lang/invoke/VarHandle" ∧ (parseMethodDescriptor y_K_setOrder.desc).map (fun d => d.parameters.length) = some 3 := by decide +kernel
theorem pf_K_setOrder : plainFor y_K_setOrder = true := by decide +kernel
theorem mn_K_countWishes : y_K_countWishes.cls ≠ "java/lang/invoke/MethodHandle" ∧ y_K_countWishes.cls ≠ "java/lang/invoke/VarHandle" ∧ (parseMethodDescriptor y_K_countWishes.desc).map (fun d => d.parameters.length) = some 1 := by decide +kernel
theorem pf_K_countWishes : plainFor y_K_countWishes = true := by decide +kernel
theorem mn_K_orderOf : y_K_orderOf.cls ≠ "java/lang/invoke/MethodHandle" ∧ y_K_orderOf.cls ≠ "java/lang/invoke/VarHandle" ∧ (parseMethodDescriptor y_K_orderOf.desc).map (fun d => d.parameters.length) = some 2 := by decide +kernel
theorem pf_K_orderOf : plainFor y_K_orderOf = true := by decide +kernel
theorem mn_C_quiet : y_C_quiet.cls ≠ "java/lang/invoke/MethodHandle" ∧ y_C_quiet.cls ≠ "java/lang/invoke/VarHandle" ∧ (parseMethodDescriptor y_C_quiet.desc).map (fun d => d.parameters.length) = some 3 := by decide +kernel
theorem pf_C_quiet : plainFor y_C_quiet = true := by decide +kernel
theorem mn_C_isMinuteOfDay : y_C_isMinuteOfDay.cls ≠ "java/lang/invoke/MethodHandle" ∧ y_C_isMinuteOfDay.cls ≠ "java/lang/invoke/VarHandle" ∧ (parseMethodDescriptor y_C_isMinuteOfDay.desc).map (fun d => d.parameters.length) = some 1 := by decide +kernel
theorem pf_C_isMinuteOfDay : plainFor y_C_isMinuteOfDay = true := by decide +kernel
theorem mn_Ma_floorMod : y_Ma_floorMod.cls ≠ "java/lang/invoke/MethodHandle" ∧ y_Ma_floorMod.cls ≠ "java/lang/invoke/VarHandle" ∧ (parseMethodDescriptor y_Ma_floorMod.desc).map (fun d => d.parameters.length) = some 2 := by decide +kernel
theorem pf_Ma_floorMod : plainFor y_Ma_floorMod = true := by decide +kernel
theorem mn_C_event : y_C_event.cls ≠ "java/lang/invoke/MethodHandle" ∧ y_C_event.cls ≠ "java/lang/invoke/VarHandle" ∧ (parseMethodDescriptor y_C_event.desc).map (fun d => d.parameters.length) = some 4 := by decide +kernel
theorem pf_C_event : plainFor y_C_event = true := by decide +kernel
theorem mn_C_isItemNumber : y_C_isItemNumber.cls ≠ "java/lang/invoke/MethodHandle" ∧ y_C_isItemNumber.cls ≠ "java/lang/invoke/VarHandle" ∧ (parseMethodDescriptor y_C_isItemNumber.desc).map (fun d => d.parameters.length) = some 1 := by decide +kernel
theorem pf_C_isItemNumber : plainFor y_C_isItemNumber = true := by decide +kernel
theorem mn_C_isTimeFromNow : y_C_isTimeFromNow.cls ≠ "java/lang/invoke/MethodHandle" ∧ y_C_isTimeFromNow.cls ≠ "java/lang/invoke/VarHandle" ∧ (parseMethodDescriptor y_C_isTimeFromNow.desc).map (fun d => d.parameters.length) = some 1 := by decide +kernel
theorem pf_C_isTimeFromNow : plainFor y_C_isTimeFromNow = true := by decide +kernel
theorem mn_C_findItem : y_C_findItem.cls ≠ "java/lang/invoke/MethodHandle" ∧ y_C_findItem.cls ≠ "java/lang/invoke/VarHandle" ∧ (parseMethodDescriptor y_C_findItem.desc).map (fun d => d.parameters.length) = some 2 := by decide +kernel
theorem pf_C_findItem : plainFor y_C_findItem = true := by decide +kernel
theorem mn_C_isEnd : y_C_isEnd.cls ≠ "java/lang/invoke/MethodHandle" ∧ y_C_isEnd.cls ≠ "java/lang/invoke/VarHandle" ∧ (parseMethodDescriptor y_C_isEnd.desc).map (fun d => d.parameters.length) = some 1 := by decide +kernel
theorem pf_C_isEnd : plainFor y_C_isEnd = true := by decide +kernel
theorem mn_C_noticesAreFull : y_C_noticesAreFull.cls ≠ "java/lang/invoke/MethodHandle" ∧ y_C_noticesAreFull.cls ≠ "java/lang/invoke/VarHandle" ∧ (parseMethodDescriptor y_C_noticesAreFull.desc).map (fun d => d.parameters.length) = some 0 := by decide +kernel
theorem pf_C_noticesAreFull : plainFor y_C_noticesAreFull = true := by decide +kernel
theorem mn_C_itemsAreFull : y_C_itemsAreFull.cls ≠ "java/lang/invoke/MethodHandle" ∧ y_C_itemsAreFull.cls ≠ "java/lang/invoke/VarHandle" ∧ (parseMethodDescriptor y_C_itemsAreFull.desc).map (fun d => d.parameters.length) = some 0 := by decide +kernel
theorem pf_C_itemsAreFull : plainFor y_C_itemsAreFull = true := by decide +kernel
theorem mn_C_addItem : y_C_addItem.cls ≠ "java/lang/invoke/MethodHandle" ∧ y_C_addItem.cls ≠ "java/lang/invoke/VarHandle" ∧ (parseMethodDescriptor y_C_addItem.desc).map (fun d => d.parameters.length) = some 2 := by decide +kernel
theorem pf_C_addItem : plainFor y_C_addItem = true := by decide +kernel
theorem mn_I_init : y_I_init.cls ≠ "java/lang/invoke/MethodHandle" ∧ y_I_init.cls ≠ "java/lang/invoke/VarHandle" ∧ (parseMethodDescriptor y_I_init.desc).map (fun d => d.parameters.length) = some 2 := by decide +kernel
theorem pf_I_init : plainFor y_I_init = true := by decide +kernel
theorem mn_C_addNotice : y_C_addNotice.cls ≠ "java/lang/invoke/MethodHandle" ∧ y_C_addNotice.cls ≠ "java/lang/invoke/VarHandle" ∧ (parseMethodDescriptor y_C_addNotice.desc).map (fun d => d.parameters.length) = some 4 := by decide +kernel
theorem pf_C_addNotice : plainFor y_C_addNotice = true := by decide +kernel
theorem mn_N_init : y_N_init.cls ≠ "java/lang/invoke/MethodHandle" ∧ y_N_init.cls ≠ "java/lang/invoke/VarHandle" ∧ (parseMethodDescriptor y_N_init.desc).map (fun d => d.parameters.length) = some 5 := by decide +kernel
theorem pf_N_init : plainFor y_N_init = true := by decide +kernel
theorem mn_C_promise : y_C_promise.cls ≠ "java/lang/invoke/MethodHandle" ∧ y_C_promise.cls ≠ "java/lang/invoke/VarHandle" ∧ (parseMethodDescriptor y_C_promise.desc).map (fun d => d.parameters.length) = some 4 := by decide +kernel
theorem pf_C_promise : plainFor y_C_promise = true := by decide +kernel
theorem mn_C_addPromise : y_C_addPromise.cls ≠ "java/lang/invoke/MethodHandle" ∧ y_C_addPromise.cls ≠ "java/lang/invoke/VarHandle" ∧ (parseMethodDescriptor y_C_addPromise.desc).map (fun d => d.parameters.length) = some 4 := by decide +kernel
theorem pf_C_addPromise : plainFor y_C_addPromise = true := by decide +kernel
theorem mn_Ma_abs : y_Ma_abs.cls ≠ "java/lang/invoke/MethodHandle" ∧ y_Ma_abs.cls ≠ "java/lang/invoke/VarHandle" ∧ (parseMethodDescriptor y_Ma_abs.desc).map (fun d => d.parameters.length) = some 1 := by decide +kernel
theorem pf_Ma_abs : plainFor y_Ma_abs = true := by decide +kernel
theorem mn_C_tick : y_C_tick.cls ≠ "java/lang/invoke/MethodHandle" ∧ y_C_tick.cls ≠ "java/lang/invoke/VarHandle" ∧ (parseMethodDescriptor y_C_tick.desc).map (fun d => d.parameters.length) = some 1 := by decide +kernel
theorem pf_C_tick : plainFor y_C_tick = true := by decide +kernel
theorem mn_C_prepareCustomersForTick : y_C_prepareCustomersForTick.cls ≠ "java/lang/invoke/MethodHandle" ∧ y_C_prepareCustomersForTick.cls ≠ "java/lang/invoke/VarHandle" ∧ (parseMethodDescriptor y_C_prepareCustomersForTick.desc).map (fun d => d.parameters.length) = some 0 := by decide +kernel
theorem pf_C_prepareCustomersForTick : plainFor y_C_prepareCustomersForTick = true := by decide +kernel
theorem mn_N_isMarked : y_N_isMarked.cls ≠ "java/lang/invoke/MethodHandle" ∧ y_N_isMarked.cls ≠ "java/lang/invoke/VarHandle" ∧ (parseMethodDescriptor y_N_isMarked.desc).map (fun d => d.parameters.length) = some 0 := by decide +kernel
theorem pf_N_isMarked : plainFor y_N_isMarked = true := by decide +kernel
theorem mn_Ma_min_JJJ : y_Ma_min_JJJ.cls ≠ "java/lang/invoke/MethodHandle" ∧ y_Ma_min_JJJ.cls ≠ "java/lang/invoke/VarHandle" ∧ (parseMethodDescriptor y_Ma_min_JJJ.desc).map (fun d => d.parameters.length) = some 2 := by decide +kernel
theorem pf_Ma_min_JJJ : plainFor y_Ma_min_JJJ = true := by decide +kernel
theorem mn_C_isDue : y_C_isDue.cls ≠ "java/lang/invoke/MethodHandle" ∧ y_C_isDue.cls ≠ "java/lang/invoke/VarHandle" ∧ (parseMethodDescriptor y_C_isDue.desc).map (fun d => d.parameters.length) = some 1 := by decide +kernel
theorem pf_C_isDue : plainFor y_C_isDue = true := by decide +kernel
theorem mn_C_isHeldByQuiet : y_C_isHeldByQuiet.cls ≠ "java/lang/invoke/MethodHandle" ∧ y_C_isHeldByQuiet.cls ≠ "java/lang/invoke/VarHandle" ∧ (parseMethodDescriptor y_C_isHeldByQuiet.desc).map (fun d => d.parameters.length) = some 1 := by decide +kernel
theorem pf_C_isHeldByQuiet : plainFor y_C_isHeldByQuiet = true := by decide +kernel
theorem mn_K_isQuietAt : y_K_isQuietAt.cls ≠ "java/lang/invoke/MethodHandle" ∧ y_K_isQuietAt.cls ≠ "java/lang/invoke/VarHandle" ∧ (parseMethodDescriptor y_K_isQuietAt.desc).map (fun d => d.parameters.length) = some 1 := by decide +kernel
theorem pf_K_isQuietAt : plainFor y_K_isQuietAt = true := by decide +kernel
theorem mn_Ma_floorMod_JJJ : y_Ma_floorMod_JJJ.cls ≠ "java/lang/invoke/MethodHandle" ∧ y_Ma_floorMod_JJJ.cls ≠ "java/lang/invoke/VarHandle" ∧ (parseMethodDescriptor y_Ma_floorMod_JJJ.desc).map (fun d => d.parameters.length) = some 2 := by decide +kernel
theorem pf_Ma_floorMod_JJJ : plainFor y_Ma_floorMod_JJJ = true := by decide +kernel
theorem mn_C_deliver : y_C_deliver.cls ≠ "java/lang/invoke/MethodHandle" ∧ y_C_deliver.cls ≠ "java/lang/invoke/VarHandle" ∧ (parseMethodDescriptor y_C_deliver.desc).map (fun d => d.parameters.length) = some 1 := by decide +kernel
theorem pf_C_deliver : plainFor y_C_deliver = true := by decide +kernel
theorem mn_K_firstWorkingChannel : y_K_firstWorkingChannel.cls ≠ "java/lang/invoke/MethodHandle" ∧ y_K_firstWorkingChannel.cls ≠ "java/lang/invoke/VarHandle" ∧ (parseMethodDescriptor y_K_firstWorkingChannel.desc).map (fun d => d.parameters.length) = some 2 := by decide +kernel
theorem pf_K_firstWorkingChannel : plainFor y_K_firstWorkingChannel = true := by decide +kernel
theorem mn_C_sent : y_C_sent.cls ≠ "java/lang/invoke/MethodHandle" ∧ y_C_sent.cls ≠ "java/lang/invoke/VarHandle" ∧ (parseMethodDescriptor y_C_sent.desc).map (fun d => d.parameters.length) = some 2 := by decide +kernel
theorem pf_C_sent : plainFor y_C_sent = true := by decide +kernel
theorem mn_C_detail : y_C_detail.cls ≠ "java/lang/invoke/MethodHandle" ∧ y_C_detail.cls ≠ "java/lang/invoke/VarHandle" ∧ (parseMethodDescriptor y_C_detail.desc).map (fun d => d.parameters.length) = some 2 := by decide +kernel
theorem pf_C_detail : plainFor y_C_detail = true := by decide +kernel
theorem mn_N_text : y_N_text.cls ≠ "java/lang/invoke/MethodHandle" ∧ y_N_text.cls ≠ "java/lang/invoke/VarHandle" ∧ (parseMethodDescriptor y_N_text.desc).map (fun d => d.parameters.length) = some 0 := by decide +kernel
theorem pf_N_text : plainFor y_N_text = true := by decide +kernel
theorem mn_C_works : y_C_works.cls ≠ "java/lang/invoke/MethodHandle" ∧ y_C_works.cls ≠ "java/lang/invoke/VarHandle" ∧ (parseMethodDescriptor y_C_works.desc).map (fun d => d.parameters.length) = some 2 := by decide +kernel
theorem pf_C_works : plainFor y_C_works = true := by decide +kernel
theorem mn_C_out : y_C_out.cls ≠ "java/lang/invoke/MethodHandle" ∧ y_C_out.cls ≠ "java/lang/invoke/VarHandle" ∧ (parseMethodDescriptor y_C_out.desc).map (fun d => d.parameters.length) = some 2 := by decide +kernel
theorem pf_C_out : plainFor y_C_out = true := by decide +kernel
theorem mn_K_clearWishes : y_K_clearWishes.cls ≠ "java/lang/invoke/MethodHandle" ∧ y_K_clearWishes.cls ≠ "java/lang/invoke/VarHandle" ∧ (parseMethodDescriptor y_K_clearWishes.desc).map (fun d => d.parameters.length) = some 1 := by decide +kernel
theorem pf_K_clearWishes : plainFor y_K_clearWishes = true := by decide +kernel
theorem mn_C_failed : y_C_failed.cls ≠ "java/lang/invoke/MethodHandle" ∧ y_C_failed.cls ≠ "java/lang/invoke/VarHandle" ∧ (parseMethodDescriptor y_C_failed.desc).map (fun d => d.parameters.length) = some 1 := by decide +kernel
theorem pf_C_failed : plainFor y_C_failed = true := by decide +kernel
theorem mn_C_correct : y_C_correct.cls ≠ "java/lang/invoke/MethodHandle" ∧ y_C_correct.cls ≠ "java/lang/invoke/VarHandle" ∧ (parseMethodDescriptor y_C_correct.desc).map (fun d => d.parameters.length) = some 2 := by decide +kernel
theorem pf_C_correct : plainFor y_C_correct = true := by decide +kernel
theorem mn_C_findNotice : y_C_findNotice.cls ≠ "java/lang/invoke/MethodHandle" ∧ y_C_findNotice.cls ≠ "java/lang/invoke/VarHandle" ∧ (parseMethodDescriptor y_C_findNotice.desc).map (fun d => d.parameters.length) = some 1 := by decide +kernel
theorem pf_C_findNotice : plainFor y_C_findNotice = true := by decide +kernel
theorem mn_N_canBeCorrected : y_N_canBeCorrected.cls ≠ "java/lang/invoke/MethodHandle" ∧ y_N_canBeCorrected.cls ≠ "java/lang/invoke/VarHandle" ∧ (parseMethodDescriptor y_N_canBeCorrected.desc).map (fun d => d.parameters.length) = some 0 := by decide +kernel
theorem pf_N_canBeCorrected : plainFor y_N_canBeCorrected = true := by decide +kernel
theorem mn_C_reopenItem : y_C_reopenItem.cls ≠ "java/lang/invoke/MethodHandle" ∧ y_C_reopenItem.cls ≠ "java/lang/invoke/VarHandle" ∧ (parseMethodDescriptor y_C_reopenItem.desc).map (fun d => d.parameters.length) = some 2 := by decide +kernel
theorem pf_C_reopenItem : plainFor y_C_reopenItem = true := by decide +kernel
theorem mn_C_addCorrection : y_C_addCorrection.cls ≠ "java/lang/invoke/MethodHandle" ∧ y_C_addCorrection.cls ≠ "java/lang/invoke/VarHandle" ∧ (parseMethodDescriptor y_C_addCorrection.desc).map (fun d => d.parameters.length) = some 2 := by decide +kernel
theorem pf_C_addCorrection : plainFor y_C_addCorrection = true := by decide +kernel
theorem mn_C_join : y_C_join.cls ≠ "java/lang/invoke/MethodHandle" ∧ y_C_join.cls ≠ "java/lang/invoke/VarHandle" ∧ (parseMethodDescriptor y_C_join.desc).map (fun d => d.parameters.length) = some 1 := by decide +kernel
theorem pf_C_join : plainFor y_C_join = true := by decide +kernel
theorem mn_M_init : y_M_init.cls ≠ "java/lang/invoke/MethodHandle" ∧ y_M_init.cls ≠ "java/lang/invoke/VarHandle" ∧ (parseMethodDescriptor y_M_init.desc).map (fun d => d.parameters.length) = some 0 := by decide +kernel
theorem pf_M_init : plainFor y_M_init = true := by decide +kernel
theorem mn_M_customer : y_M_customer.cls ≠ "java/lang/invoke/MethodHandle" ∧ y_M_customer.cls ≠ "java/lang/invoke/VarHandle" ∧ (parseMethodDescriptor y_M_customer.desc).map (fun d => d.parameters.length) = some 2 := by decide +kernel
theorem pf_M_customer : plainFor y_M_customer = true := by decide +kernel
theorem mn_M_isIn : y_M_isIn.cls ≠ "java/lang/invoke/MethodHandle" ∧ y_M_isIn.cls ≠ "java/lang/invoke/VarHandle" ∧ (parseMethodDescriptor y_M_isIn.desc).map (fun d => d.parameters.length) = some 3 := by decide +kernel
theorem pf_M_isIn : plainFor y_M_isIn = true := by decide +kernel
theorem mn_M_wish : y_M_wish.cls ≠ "java/lang/invoke/MethodHandle" ∧ y_M_wish.cls ≠ "java/lang/invoke/VarHandle" ∧ (parseMethodDescriptor y_M_wish.desc).map (fun d => d.parameters.length) = some 4 := by decide +kernel
theorem pf_M_wish : plainFor y_M_wish = true := by decide +kernel
theorem mn_M_isCustomer : y_M_isCustomer.cls ≠ "java/lang/invoke/MethodHandle" ∧ y_M_isCustomer.cls ≠ "java/lang/invoke/VarHandle" ∧ (parseMethodDescriptor y_M_isCustomer.desc).map (fun d => d.parameters.length) = some 1 := by decide +kernel
theorem pf_M_isCustomer : plainFor y_M_isCustomer = true := by decide +kernel
theorem mn_M_wished : y_M_wished.cls ≠ "java/lang/invoke/MethodHandle" ∧ y_M_wished.cls ≠ "java/lang/invoke/VarHandle" ∧ (parseMethodDescriptor y_M_wished.desc).map (fun d => d.parameters.length) = some 2 := by decide +kernel
theorem pf_M_wished : plainFor y_M_wished = true := by decide +kernel
theorem mn_M_quiet : y_M_quiet.cls ≠ "java/lang/invoke/MethodHandle" ∧ y_M_quiet.cls ≠ "java/lang/invoke/VarHandle" ∧ (parseMethodDescriptor y_M_quiet.desc).map (fun d => d.parameters.length) = some 3 := by decide +kernel
theorem pf_M_quiet : plainFor y_M_quiet = true := by decide +kernel
theorem mn_M_event : y_M_event.cls ≠ "java/lang/invoke/MethodHandle" ∧ y_M_event.cls ≠ "java/lang/invoke/VarHandle" ∧ (parseMethodDescriptor y_M_event.desc).map (fun d => d.parameters.length) = some 4 := by decide +kernel
theorem pf_M_event : plainFor y_M_event = true := by decide +kernel
theorem mn_M_isTime : y_M_isTime.cls ≠ "java/lang/invoke/MethodHandle" ∧ y_M_isTime.cls ≠ "java/lang/invoke/VarHandle" ∧ (parseMethodDescriptor y_M_isTime.desc).map (fun d => d.parameters.length) = some 1 := by decide +kernel
theorem pf_M_isTime : plainFor y_M_isTime = true := by decide +kernel
theorem mn_M_pairOf : y_M_pairOf.cls ≠ "java/lang/invoke/MethodHandle" ∧ y_M_pairOf.cls ≠ "java/lang/invoke/VarHandle" ∧ (parseMethodDescriptor y_M_pairOf.desc).map (fun d => d.parameters.length) = some 2 := by decide +kernel
theorem pf_M_pairOf : plainFor y_M_pairOf = true := by decide +kernel
theorem mn_M_keep : y_M_keep.cls ≠ "java/lang/invoke/MethodHandle" ∧ y_M_keep.cls ≠ "java/lang/invoke/VarHandle" ∧ (parseMethodDescriptor y_M_keep.desc).map (fun d => d.parameters.length) = some 2 := by decide +kernel
theorem pf_M_keep : plainFor y_M_keep = true := by decide +kernel
theorem mn_M_put : y_M_put.cls ≠ "java/lang/invoke/MethodHandle" ∧ y_M_put.cls ≠ "java/lang/invoke/VarHandle" ∧ (parseMethodDescriptor y_M_put.desc).map (fun d => d.parameters.length) = some 6 := by decide +kernel
theorem pf_M_put : plainFor y_M_put = true := by decide +kernel
theorem mn_M_promise : y_M_promise.cls ≠ "java/lang/invoke/MethodHandle" ∧ y_M_promise.cls ≠ "java/lang/invoke/VarHandle" ∧ (parseMethodDescriptor y_M_promise.desc).map (fun d => d.parameters.length) = some 4 := by decide +kernel
theorem pf_M_promise : plainFor y_M_promise = true := by decide +kernel
theorem mn_M_tick : y_M_tick.cls ≠ "java/lang/invoke/MethodHandle" ∧ y_M_tick.cls ≠ "java/lang/invoke/VarHandle" ∧ (parseMethodDescriptor y_M_tick.desc).map (fun d => d.parameters.length) = some 1 := by decide +kernel
theorem pf_M_tick : plainFor y_M_tick = true := by decide +kernel
theorem mn_M_isDue : y_M_isDue.cls ≠ "java/lang/invoke/MethodHandle" ∧ y_M_isDue.cls ≠ "java/lang/invoke/VarHandle" ∧ (parseMethodDescriptor y_M_isDue.desc).map (fun d => d.parameters.length) = some 1 := by decide +kernel
theorem pf_M_isDue : plainFor y_M_isDue = true := by decide +kernel
theorem mn_M_isQuiet : y_M_isQuiet.cls ≠ "java/lang/invoke/MethodHandle" ∧ y_M_isQuiet.cls ≠ "java/lang/invoke/VarHandle" ∧ (parseMethodDescriptor y_M_isQuiet.desc).map (fun d => d.parameters.length) = some 1 := by decide +kernel
theorem pf_M_isQuiet : plainFor y_M_isQuiet = true := by decide +kernel
theorem mn_M_channelOf : y_M_channelOf.cls ≠ "java/lang/invoke/MethodHandle" ∧ y_M_channelOf.cls ≠ "java/lang/invoke/VarHandle" ∧ (parseMethodDescriptor y_M_channelOf.desc).map (fun d => d.parameters.length) = some 1 := by decide +kernel
theorem pf_M_channelOf : plainFor y_M_channelOf = true := by decide +kernel
theorem mn_M_sent : y_M_sent.cls ≠ "java/lang/invoke/MethodHandle" ∧ y_M_sent.cls ≠ "java/lang/invoke/VarHandle" ∧ (parseMethodDescriptor y_M_sent.desc).map (fun d => d.parameters.length) = some 2 := by decide +kernel
theorem pf_M_sent : plainFor y_M_sent = true := by decide +kernel
theorem mn_M_works : y_M_works.cls ≠ "java/lang/invoke/MethodHandle" ∧ y_M_works.cls ≠ "java/lang/invoke/VarHandle" ∧ (parseMethodDescriptor y_M_works.desc).map (fun d => d.parameters.length) = some 2 := by decide +kernel
theorem pf_M_works : plainFor y_M_works = true := by decide +kernel
theorem mn_M_out : y_M_out.cls ≠ "java/lang/invoke/MethodHandle" ∧ y_M_out.cls ≠ "java/lang/invoke/VarHandle" ∧ (parseMethodDescriptor y_M_out.desc).map (fun d => d.parameters.length) = some 2 := by decide +kernel
theorem pf_M_out : plainFor y_M_out = true := by decide +kernel
theorem mn_M_failed : y_M_failed.cls ≠ "java/lang/invoke/MethodHandle" ∧ y_M_failed.cls ≠ "java/lang/invoke/VarHandle" ∧ (parseMethodDescriptor y_M_failed.desc).map (fun d => d.parameters.length) = some 1 := by decide +kernel
theorem pf_M_failed : plainFor y_M_failed = true := by decide +kernel
theorem mn_M_correct : y_M_correct.cls ≠ "java/lang/invoke/MethodHandle" ∧ y_M_correct.cls ≠ "java/lang/invoke/VarHandle" ∧ (parseMethodDescriptor y_M_correct.desc).map (fun d => d.parameters.length) = some 2 := by decide +kernel
theorem pf_M_correct : plainFor y_M_correct = true := by decide +kernel
theorem mn_M_undo : y_M_undo.cls ≠ "java/lang/invoke/MethodHandle" ∧ y_M_undo.cls ≠ "java/lang/invoke/VarHandle" ∧ (parseMethodDescriptor y_M_undo.desc).map (fun d => d.parameters.length) = some 1 := by decide +kernel
theorem pf_M_undo : plainFor y_M_undo = true := by decide +kernel
theorem mn_M_join : y_M_join.cls ≠ "java/lang/invoke/MethodHandle" ∧ y_M_join.cls ≠ "java/lang/invoke/VarHandle" ∧ (parseMethodDescriptor y_M_join.desc).map (fun d => d.parameters.length) = some 1 := by decide +kernel
theorem pf_M_join : plainFor y_M_join = true := by decide +kernel
