/-! ===== every run of the abstract machine is a run of the class ===== -/
theorem a_ret_int {k : Nat} {z : Int32} (h : mR k = some .int) : a_ret k .ireturn [.int z] = some (.inl (some (.int z)), 0, 0) := by unfold a_ret; rw [h]
section ALLS
variable {p : Program} {l : Launch} {e : Env} {R : Room} {s : State} {m : MethodId} {args : Array Value} {below : List Frame} {meth : Method} {c : Code} {H : Heap} {locs : List Loc} {Q : State → Prop}
variable {adK adV : Nat → Nat} {b : Nat} {sc : List Int32} {D : va_G} {cA : Nat → ClassId} {A : Nat → Prop} {θ : Nat → Nat} {w : AW} {ls : AL} {st : List Value} {sl : Array Slot} {d k pc len nc ns n : Nat} {N : AN}
set_option maxHeartbeats 4000000 in
/-- a call, and what the caller does with its answer -/
theorem s_cal {i : Instr} {j n0 : Nat} {ags rest : List Value} {r res : AR} {θ0 : Nat → Nat} (IH : a_FS sc n) (hX : a_X adK adV b sc D cA A p l R s m args meth c (d + 1) k) (hI : a_I D cA adK b A s H locs θ w) (hF : a_F θ w (mX k) sl ls st) (hd : mLk k pc = some (i, len)) (hc : cal k st w i = some (j, ags, rest))
    (h : ev sc n d j 0 (lv_args 0 ags) [] w 0 0 = some r) (hb : a_bk k pc j rest nc ns (fun st' w' a b => ev sc n (d + 1) k (pc + 3) ls st' w' a b) (some r) = some res) (hex : a_ex n0 θ0 θ) (hn0 : n0 ≤ w.length) (hrc : res.2.2.1 ≤ R.cells) (hrs : res.2.2.2 ≤ R.slots)
    (hEnd : a_End adK b D cA A p l e R s m args below meth c Q k n0 θ0 res) : W p l e R s m args below meth c H locs nc ns Q (F0 m pc sl (st.map (a_V θ))) := by
  obtain ⟨-, -, hlw, -⟩ := IH d j 0 _ [] w 0 0 r h
  obtain ⟨o, w', a, b9⟩ := r
  cases o with
  | inl v =>
    have h2 : ev sc n (d + 1) k (pc + 3) ls (v.toList ++ rest) w' (nc + a) (ns + b9) = some res := hb
    obtain ⟨i1, i2, i3, i4⟩ := IH _ _ _ _ _ _ _ _ _ h2
    obtain ⟨hrun, hkn⟩ := a_call IH hX hI hF hd hc h (Or.inr ⟨v, rfl⟩) ⟨Nat.le_trans i1 hrc, Nat.le_trans i2 hrs⟩
    refine a_run hrun (fun v0 st₀ t L h0 hv hL hQ => ?_) (fun E ce q st₀ t L h0 hv hL hQ hce hcv hcl => ?_)
    · obtain ⟨⟨v1, θ', e1, hex', e2, hJ, hval⟩, hF9⟩ := hQ
      cases e1
      cases e2
      have hI' := a_back hX hI h0 hL hJ hF9
      have hm : (v.toList ++ rest).map (a_V θ') = v.toList ++ rest.map (a_V θ) := by
        rw [List.map_append, a_Vs_ex hex' hkn]
        congr 1
        cases v with
        | none => rfl
        | some u => exact congrArg (fun z => [z]) ((hval u (by simp) 0).2 θ')
      rw [← hm]
      exact i4 p l e R s m args below meth c t.heap _ Q adK adV b D cA A θ' sl n0 θ0 hX hI' ((hF.ex hex' hlw).st (fun u hu => by
        rcases List.mem_append.mp hu with q | q
        · exact (hval u q _).1
        · exact a_rk_mono (hkn u q) hlw)) (a_ex_tr hex hex' hn0) (Nat.le_trans hn0 hlw) hrc hrs hEnd
    · obtain ⟨x, θ', e1, -⟩ := hQ
      cases e1
  | inr x =>
    have h2 : (if mD j = 0 then (match mH k with
      | [] => some (Sum.inr x, w', nc + a, ns + b9)
      | _ :: _ => match a_hnd k pc x with
        | some z => some (Sum.inl (some (.int z)), w', nc + a, ns + b9)
        | none => none) else none) = some res := hb
    split at h2
    · rename_i hD
      have hrr : nc + a ≤ R.cells ∧ ns + b9 ≤ R.slots := by
        split at h2
        · cases h2; exact ⟨hrc, hrs⟩
        · split at h2
          · cases h2; exact ⟨hrc, hrs⟩
          · cases h2
      obtain ⟨hrun, hkn⟩ := a_call IH hX hI hF hd hc h (Or.inl hD) hrr
      refine a_run hrun (fun v0 st₀ t L h0 hv hL hQ => ?_) (fun E ce q st₀ t L h0 hv hL hQ hce hcv hcl => ?_)
      · obtain ⟨⟨v1, θ', e1, -⟩, -⟩ := hQ
        cases e1
      · obtain ⟨x1, θ', e1, rfl, hex', hJ, hF9⟩ := hQ
        cases e1
        have hI' := a_back hX hI h0 hL hJ hF9
        have hex2 := a_ex_tr hex hex' hn0
        split at h2
        · rename_i hH
          cases h2
          obtain ⟨Qc, XC, free, hQ, hfree, hxc⟩ := hEnd.2 x rfl
          subst hQ
          refine vx_out (E := xNm x) (fun z hz => ?_) hX.2.1 hce hcv hcl (fun t' e9 ha => hxc θ' t.heap _ t' hex2 hI' ha (by rw [e9]; exact Nat.le_refl _) (fun q9 _ => by rw [e9])) (fun z hz => hfree _ (hI'.2.2.1.2.2 z hz)) (Nat.le_refl _) (Nat.le_refl _)
          rw [hX.2.2.2.2.1, hH] at hz
          cases hz
        · split at h2
          · rename_i z hz
            cases h2
            exact a_hnd_ok hX hz ⟨_, hF.1⟩ hce hcv hcl (fun pc' sl' hlk hmr => hEnd.1 _ rfl θ' t.heap _ sl' pc' .ireturn [.int z] hlk (a_ret_int hmr) hex2 hI')
          · cases h2
    · cases h2
end ALLS
set_option maxHeartbeats 4000000 in
theorem a_fs (sc : List Int32) : ∀ n : Nat, a_FS sc n
  | 0 => fun d k pc ls st w nc ns res h => by cases h
  | n + 1 => by
    have IH := a_fs sc n
    intro d k pc ls st w nc ns res h
    unfold ev at h
    split at h
    · cases h
    · rename_i i len hd
      split at h
      · rename_i pc' ls' st' w' a b9 hins
        obtain ⟨g1, g2, g3, g4⟩ := IH _ _ _ _ _ _ _ _ _ h
        have hl : w.length ≤ w'.length := ins_len hins
        refine ⟨by omega, by omega, Nat.le_trans hl g3, ?_⟩
        intro p l e R s m args below meth c H locs Q adK adV b D cA A θ sl n0 θ0 hX hI hF hex hn0 hrc hrs hEnd
        exact s_all hX hI hF hd hins ⟨Nat.le_trans g1 hrc, Nat.le_trans g2 hrs⟩ (fun θ' H' locs' sl' hex' hI' hF' =>
          g4 p l e R s m args below meth c H' locs' Q adK adV b D cA A θ' sl' n0 θ0 hX hI' hF' (a_ex_tr hex hex' hn0) (Nat.le_trans hn0 hl) hrc hrs hEnd)
      · split at h
        · rename_i o a b9 hfin
          cases h
          refine ⟨Nat.le_add_right _ _, Nat.le_add_right _ _, Nat.le_refl _, ?_⟩
          intro p l e R s m args below meth c H locs Q adK adV b D cA A θ sl n0 θ0 hX hI hF hex hn0 hrc hrs hEnd
          exact s_fin hX hI hF hd hfin hex ⟨hrc, hrs⟩ hEnd
        · split at h
          · rename_i j ags rest hcal
            cases d with
            | zero => cases h
            | succ d' =>
              have h1 : a_bk k pc j rest nc ns (fun st' w' a b => ev sc n (d' + 1) k (pc + 3) ls st' w' a b) (ev sc n d' j 0 (lv_args 0 ags) [] w 0 0) = some res := h
              cases hev : ev sc n d' j 0 (lv_args 0 ags) [] w 0 0 with
              | none => rw [hev] at h1; cases h1
              | some r =>
                rw [hev] at h1
                obtain ⟨q1, q2, q3, -⟩ := IH _ _ _ _ _ _ _ _ _ hev
                have key : nc ≤ res.2.2.1 ∧ ns ≤ res.2.2.2 ∧ w.length ≤ res.2.1.length := by
                  obtain ⟨o, w', a, b9⟩ := r
                  cases o with
                  | inl v =>
                    obtain ⟨i1, i2, i3, -⟩ := IH _ _ _ _ _ _ _ _ _ (show ev sc n (d' + 1) k (pc + 3) ls (v.toList ++ rest) w' (nc + a) (ns + b9) = some res from h1)
                    exact ⟨Nat.le_trans (Nat.le_add_right _ _) i1, Nat.le_trans (Nat.le_add_right _ _) i2, Nat.le_trans q3 i3⟩
                  | inr x =>
                    have h2 : (if mD j = 0 then (match mH k with
                      | [] => some (Sum.inr x, w', nc + a, ns + b9)
                      | _ :: _ => match a_hnd k pc x with
                        | some z => some (Sum.inl (some (.int z)), w', nc + a, ns + b9)
                        | none => none) else none) = some res := h1
                    split at h2
                    · split at h2
                      · cases h2; exact ⟨Nat.le_add_right _ _, Nat.le_add_right _ _, q3⟩
                      · split at h2
                        · cases h2; exact ⟨Nat.le_add_right _ _, Nat.le_add_right _ _, q3⟩
                        · cases h2
                    · cases h2
                refine ⟨key.1, key.2.1, key.2.2, ?_⟩
                intro p l e R s m args below meth c H locs Q adK adV b D cA A θ sl n0 θ0 hX hI hF hex hn0 hrc hrs hEnd
                exact s_cal IH hX hI hF hd hcal hev h1 hex hn0 hrc hrs hEnd
          · cases h
