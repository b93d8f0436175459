abbrev rmX2_mixed : Room := { frames := 0, cells := 0, slots := 0, locals := 0 }
abbrev rmX2_mixedTunes : Room := { frames := 4, cells := 0, slots := 0, locals := 91 }
abbrev rmX2_mixedTeeth : Room := { frames := 4, cells := 0, slots := 0, locals := 93 }
abbrev rmX2_mixedNotes : Room := { frames := 3, cells := 0, slots := 0, locals := 64 }
