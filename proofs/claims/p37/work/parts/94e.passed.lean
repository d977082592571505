section LP
variable {m : Nat} {A : Nat → Nat} {cut bound : Int} {K : Int32} {H : Int} {M : kx_M}
theorem hI_pHour (h : hI m A cut bound K H 0 M) : pHour M m := by
  have s := h.1
  have hr := rail_len h
  refine ⟨⟨s.1, A 200, s.2.1 200 (by decide) (by decide), s.2.2.1 200 (by decide) (by decide), by have := h.2.1.2.1; omega, fun g hg => ?_⟩, ⟨s.1, A 201, s.2.1 201 (by decide) (by decide), s.2.2.1 201 (by decide) (by decide), by have := h.2.2.2.2.1.2.1; omega, fun c hc => ?_⟩, ⟨s.1, A 202, s.2.1 202 (by decide) (by decide), s.2.2.1 202 (by decide) (by decide), by have := h.2.2.2.2.2.2.1.2.1; omega, fun x hx => (h.2.2.2.2.2.2.1.2.2.2 x hx).1⟩, ⟨s.1, A 206, s.2.1 206 (by decide) (by decide), s.2.2.1 206 (by decide) (by decide), by omega, fun q hq => ?_⟩, h.2.2.2.2.2.2.2.2.2.2.2.2.2.2.2.2⟩
  · obtain ⟨a, ⟨q, b, c, -⟩, -⟩ := h.2.1.2.2 g hg
    exact ⟨a, q, b, c⟩
  · obtain ⟨a, ⟨k, g, d1, d2, d3⟩, -⟩ := h.2.2.2.2.1.2.2 c hc
    exact ⟨a, g, d3, (h.2.1.2.2 g (List.mem_of_getElem? d1)).1⟩
  · obtain ⟨a, ⟨b, b1, b2⟩, -⟩ := h.2.2.2.2.2.2.2.2.1 q hq
    obtain ⟨c, ⟨x, d1, d2, -⟩, -⟩ := h.2.2.1.2.2.2 b b1
    exact ⟨a, b, b2, c, x, d1, d2⟩
end LP
