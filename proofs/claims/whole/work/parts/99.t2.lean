/-! ===== a step: the plan, whole ===== -/
section T2
variable {n m t : Nat} {σ τ ρ ς : sm_M} {M R v e0 : Int32} {l : List (Option Nat × Int32)}
theorem Rl.pl (h : Rl n m e0 σ τ) (a : ∀ φ, φ ≠ 2 → φ ≠ 9 → φ ≠ 10 → ς.1 φ = σ.1 φ) (a2 : ς.2 = σ.2) : Rl n m e0 ς τ := by
  refine h.glob (fun φ _ h2 h9 h10 => a φ h2 h9 h10) (fun _ _ _ => rfl) ⟨rfl, rfl⟩ ?_ ?_ (Or.inl rfl)
  · unfold bG; rw [a 0 (by decide) (by decide) (by decide), a 3 (by decide) (by decide) (by decide), a2]; exact h.2.1
  · unfold bB; rw [a 0 (by decide) (by decide) (by decide), a 3 (by decide) (by decide) (by decide)]; exact h.2.2.1
theorem PD_pl (a4 : ς.1 4 = σ.1 4) (a5 : ς.1 5 = σ.1 5) (h : PD n m ς M) : PD n m σ M := by
  unfold PD Dn at h ⊢
  rw [a4, a5] at h
  exact h
theorem Rr_pl {j : Nat} (a4 : ς.1 4 = σ.1 4) (a5 : ς.1 5 = σ.1 5) (h : Rr m t ς R j) : Rr m t σ R j := by
  unfold Rr at h ⊢
  rw [a4, a5] at h
  exact h
theorem e_fill (h : Rl n m 0 σ τ) (ht : t < n) : ∃ (M : Int32) (ρ : sm_M) (l : List (Option Nat × Int32)) (th : Bool) (R : Int32), PDl m t M σ ∧ f_X3_fill (Int32.ofNat t) σ = some ρ ∧ Enc σ ρ l th R ∧ Run m t M th 0 l σ ∧ l.length ≤ 8 := by
  have hn := h.n16
  have hm := h.m40
  have h2 : Rl n m 0 (wI (wI σ 2 0 2 0) 2 0 3 0) τ := h.pl (fun φ a _ _ => by rw [w_ne a, w_ne a]) rfl
  obtain ⟨R, eR, hR⟩ := e_room h2 ht
  obtain ⟨ρ0, hρ⟩ : ∃ ρ0, ρ0 = wI (wI (wI σ 2 0 2 0) 2 0 3 0) 2 0 4 R := ⟨_, rfl⟩
  have hE : Enc σ ρ0 [] false R := by
    subst hρ
    refine ⟨fun φ a _ _ => by rw [w_ne a, w_ne a, w_ne a], rfl, ?_, ?_, w_eq, fun i y hy => by simp at hy⟩
    · rw [w_k (by decide), w_k (by decide), w_eq]; rfl
    · rw [w_k (by decide), w_eq]; rfl
  have e4 : ρ0.1 4 = σ.1 4 := hE.1 4 (by decide) (by decide) (by decide)
  have e5 : ρ0.1 5 = σ.1 5 := hE.1 5 (by decide) (by decide) (by decide)
  have hR' : Rr m t σ R 0 := Rr_pl (by rw [w_ne (by decide), w_ne (by decide)]) (by rw [w_ne (by decide), w_ne (by decide)]) hR
  obtain ⟨M, hM, eM⟩ := e_done (h.pl hE.1 hE.2.1)
  have hM' : PD n m σ M := PD_pl e4 e5 hM
  have hI : Inv n m t M σ 0 [] ρ0 R := ⟨hE, ⟨τ, h⟩, Fr.refl, hR', by simp, (Int32.add_zero _).symm, fun c hc => absurd hc (Nat.not_lt_zero c)⟩
  have E : f_X3_fill (Int32.ofNat t) σ = if σ.1 4 t 2 = 0 then f_X3_fillFromSource t (Int32.ofNat t) ρ0 else f_X3_fillFromChannels (Int32.ofNat t) ρ0 := by
    rw [f_X3_fill, sI_s, Option.bind_some, sZ_s z0, Option.bind_some, eR, Option.bind_some]
    dsimp only
    rw [sI_s, Option.bind_some, ← hρ, aP_n (by show t < 16; omega) (by omega), Option.bind_some, Option.bind_some, e4]
    by_cases k0 : σ.1 4 t 2 = 0
    · rw [if_pos k0, if_pos k0]; cases f_X3_fillFromSource t (Int32.ofNat t) ρ0 <;> rfl
    · rw [if_neg k0, if_neg k0]; cases f_X3_fillFromChannels (Int32.ofNat t) ρ0 <;> rfl
  have C : Con m t M σ [] (f_X3_fill (Int32.ofNat t) σ) := by
    rw [E]
    by_cases k0 : σ.1 4 t 2 = 0
    · rw [if_pos k0, f_X3_fillFromSource, e4]
      exact e_src h ht k0 8 1000 [] ρ0 R _ rfl (by omega) hI rfl
    · rw [if_neg k0, f_X3_fillFromChannels, aP_n (by show t < 16; omega) (by omega), Option.bind_some, eM, Option.bind_some]
      exact e_chn h ht k0 m 0 1000 [] ρ0 R (by omega) (by omega) hI (fun _ _ => rfl)
  obtain ⟨ρ', l', th, R', a1, a2, a3, a4⟩ := C
  exact ⟨M, ρ', l', th, R', fun f hf => hM'.1 f (by omega), a1, a2, a3, a4⟩
end T2
