/-! rows of nothing beyond the receivers: as many rows as one likes -/
/-! both sides -/
/-! images, and what else the calls of the led table tell -/
/-! the chain of steps, by six rows and by the receivers' alone -/
/-! answers: a number of two tables, by whether it is led -/
/-! answers out of tables and steps: the same on both sides -/
/-! how alike two columns are; the most alike; all squares -/
/-! columns of nothing beyond the senders -/
